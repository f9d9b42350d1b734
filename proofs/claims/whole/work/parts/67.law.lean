/-! the law: its own words, from the given skeleton -/
def R_law : String := "WhichDayLaw"
def lw_P (b : Addr) (xs : List Int32) (args : Array Value) (s : State) : Prop := args = #[.ref b] ∧ s.IntsAt b xs ∧ xs.length ≤ 384 ∧ (Jvm.Cond.and given_1 narrow_1).before args s = true
def lw_Q (_ : Array Value) (s : State) (o : Outcome) (t : State) : Prop := o = .returned (some (.int 1)) ∧ Framed s o t [] 600128 7301098
def lw_Z (below : List Frame) (a : Array Value) (s : State) : State → Prop := fun t => ∃ o, t.status = .running ∧ Ended t below o ∧ lw_Q a s o t
/-- the law's own end, with 1 on the stack, nothing written that was there before, its room as the claim has it -/
theorem lw_ret {p : Program} {l : Launch} {e : Env} {s : State} {m : MethodId} {below : List Frame} {meth : Method} {c : Code} {b : Nat} (hx : p.tables.exec = Jvm.exec) (hb : c.code = code) (hr : meth.sig.returnType = ret) (hlocks : meth.locks = false) {pc : Nat} {H : Heap} {ls : Array Slot} (hdg : decode code pc = .ok (.ireturn, 1)) : W p l e room_1 s m #[Value.ref b] below meth c H [] 600128 7301098 (lw_Z below #[Value.ref b] s) (F0 m pc ls [.int 1]) := by
  intro T hT X
  obtain ⟨fs, hret, hrun, hended, hW, hframe⟩ := X.leave (v := some (.int 1)) (hlocks := hlocks) (fun h => by rw [hr] at h; cases h)
  have hmeth' : T.vm.method? m = some meth := X.method'
  refine ⟨T.setFrames fs, ?_, .returned (some (.int 1)), hrun, hended, rfl, ⟨_, rfl⟩, hW, hframe⟩
  jvm_step X.here [X.here.top, hx, hb, hdg, hmeth', hr, ret, narrow_b1]
  (try refine ⟨rfl, ?_⟩); (try refine ⟨rfl, ?_⟩)
  first | (intro acts; rw [hret _ acts rfl rfl rfl]) | rw [hret _ _ rfl rfl rfl]
  exact Steps.refl _
/-- what holds at the law's entry: the machine, the code, the tables' words (any of lw_tbl by 'hts w (by decide +kernel)'), the script of L ints xs at the cell b, what the Statement gives of the start (any of its parts by flat_of_before) -/
def lw_At (p : Program) (s : State) (m : MethodId) (meth : Method) (c : Code) (b L : Nat) (xs : Nat → Int32) : Prop :=
  p.tables.exec = Jvm.exec ∧ c.code = code ∧ meth.sig.returnType = ret ∧ c.maxLocals = 8 ∧ s.vm.findClass R_law = some m.cls ∧ (∀ w ∈ lw_tbl, w.before #[Value.ref b] s = true) ∧ va_X b L xs s s.heap ∧ b < s.heap.size ∧ meth.locks = false ∧ (Jvm.Cond.and given_1 narrow_1).before #[Value.ref b] s = true
section DE
variable {p : Program} {l : Launch} {e : Env} {s : State} {m : MethodId} {below : List Frame} {meth : Method} {c : Code} {H : Heap} {locs : List Loc} {cells slots : Nat} {ls : Array Slot} {pc pc' : Nat} {D : va_G} {aC ad : Nat → Nat} {h h1 : ev_H} {rest : List Value} {b L i : Nat} {xs : Nat → Int32}
/-- what the law's rows need of its start -/
def LX (p : Program) (s : State) (m : MethodId) (meth : Method) (c : Code) (b L : Nat) (xs : Nat → Int32) : Prop := ev_C p s m #[Value.ref b] meth c RL meth.name code 8 ret ∧ va_X b L xs s s.heap ∧ b < s.heap.size ∧ L ≤ 384
/-- the law's locals -/
abbrev lvL (b : Nat) (ad : Nat → Nat) (i : Nat) : List (Nat × Value) := [(0, .ref b), (1, .ref (ad 0)), (2, .ref (ad 34)), (3, .ref (ad 46)), (4, .int (iI (i : Int)))]
/-- the head of the law's loop, i ints read -/
def LSt (D : va_G) (aC : Nat → Nat) (s : State) (b i : Nat) (H : Heap) (locs : List Loc) (ls : Array Slot) (h : ev_H) : Prop := ∃ ad, ev_D D aC ad (fun q => s.heap.size ≤ q) s H locs h ∧ lv_has ls 8 (lvL b ad i) ∧ ok_h h ∧ LI h
theorem LI.len (x : LI h) : 47 ≤ h.length := by
  obtain ⟨im, o, A, F, F2, w, x, -⟩ := x
  exact x.2.2.2.2.2.2.2.2.1
theorem LI.o0 (x : LI h) : ∃ fs, h[0]? = some (.inr (5, fs)) := by
  obtain ⟨im, o, A, F, F2, w, x, -⟩ := x
  exact ⟨_, x.x0⟩
theorem MW.o34 {o : Nat → Int} {A : Nat → Int → Int} (x : MW h o A) : ∃ fs, h[34]? = some (.inr (6, fs)) := ⟨_, x.o⟩
/-- script[i + k] -/
theorem lw_sc {k : Nat} {z : Int} {Q : State → Prop} (X : LX p s m meth c b L xs) (hS : va_S (fun q => s.heap.size ≤ q) s.heap H locs) (h0 : ls[0]? = some (.val (.ref b))) (h4 : ls[4]? = some (.val (.int (iI (i : Int))))) (hk : i + k < L) (hz : xs (i + k) = iI z) (d0 : decode code pc = .ok (.aload_n 0, 1)) (d1 : decode code (pc + 1) = .ok (.iload 4, 2)) (d3 : decode code (pc + 3) = .ok (.iconst (k : Int), 1)) (d4 : decode code (pc + 4) = .ok (.iadd, 1)) (d5 : decode code (pc + 5) = .ok (.iaload, 1)) (hp : pc + 6 = pc') (kk : W p l e room_1 s m #[Value.ref b] below meth c H locs cells slots Q (F0 m pc' ls (.int (iI z) :: rest))) : W p l e room_1 s m #[Value.ref b] below meth c H locs cells slots Q (F0 m pc ls rest) := by
  subst hp
  obtain ⟨C, hX, hbl, hL⟩ := X
  have hbA : ¬ (fun q : Nat => s.heap.size ≤ q) b := Nat.not_le.mpr hbl
  refine lv_aload_n C.1 C.2.1 d0 rfl h0 ?_
  refine lv_iload C.1 C.2.1 d1 h4 ?_
  refine lv_iconst (v := iI (k : Int)) C.1 C.2.1 d3 rfl ?_
  refine lv_iadd C.1 C.2.1 d4 ?_
  rw [iI_add]
  have hin : vp_in (iI ((i : Int) + (k : Int))) L := iI_in (by omega) (by omega)
  have hcl := iI_cl (e := (i : Int) + (k : Int)) (by omega)
  refine va_sld C.1 C.2.1 hX hbl hbA hS hin d5 ?_
  rw [show (iI ((i : Int) + (k : Int))).toNatClampNeg = i + k by omega, hz]
  exact kk
/-- a test against 0, as 0 or 1 -/
theorem lw_ne {z : Int} {Q : State → Prop} (X : LX p s m meth c b L xs) (rz : -2147483648 ≤ z ∧ z < 2147483648) (d0 : decode code pc = .ok (.ifCond .eq 7, 3)) (d3 : decode code (pc + 3) = .ok (.iconst 1, 1)) (d4 : decode code (pc + 4) = .ok (.goto 4, 3)) (d7 : decode code (pc + 7) = .ok (.iconst 0, 1)) (hp : pc + 8 = pc') (kk : W p l e room_1 s m #[Value.ref b] below meth c H locs cells slots Q (F0 m pc' ls (.int (iI (if z = 0 then 0 else 1)) :: rest))) : W p l e room_1 s m #[Value.ref b] below meth c H locs cells slots Q (F0 m pc ls (.int (iI z) :: rest)) := by
  subst hp
  obtain ⟨C, -⟩ := X
  refine lv_if_eq (tgt := pc + 7) C.1 C.2.1 d0 (by omega) (fun q => ?_) (fun q => ?_)
  · have q : z = 0 := (iI_eq rz (by decide)).mp q
    rw [if_pos q] at kk
    exact lv_iconst (v := iI 0) C.1 C.2.1 d7 rfl kk
  · have q : ¬ z = 0 := fun y => q (by rw [y]; rfl)
    rw [if_neg q] at kk
    refine lv_iconst (v := iI 1) C.1 C.2.1 d3 rfl ?_
    exact lv_goto (tgt := pc + 8) C.1 C.2.1 d4 (by omega) kk
theorem LSt.next {i : Nat} (hl : lv_has ls 8 (lvL b ad i)) {ad2 : Nat → Nat} (e0 : ad2 0 = ad 0) (e34 : ad2 34 = ad 34) (e46 : ad2 46 = ad 46) : lv_has ls 8 (lvL b ad2 i) := by
  unfold lvL
  rw [e0, e34, e46]
  exact hl
theorem lg_cmp_self (r : Int64) : lg_cmp r r = 0 := by unfold lg_cmp; simp
theorem law_c0 (X : LX p s m meth c b L xs) (hi : i + 6 ≤ L) (hc : cells ≤ 5000) (S : LSt D aC s b i H locs ls h) (kk : ∀ (H1 : Heap) (locs1 : List Loc) (ls1 : Array Slot) (h1 : ev_H) (cells1 : Nat), LSt D aC s b i H1 locs1 ls1 h1 → cells1 ≤ cells + 50 → W p l e room_1 s m #[Value.ref b] below meth c H1 locs1 cells1 (1000 * cells1) (lw_Z below #[Value.ref b] s) (F0 m 1923 ls1 [])) : W p l e room_1 s m #[Value.ref b] below meth c H locs cells (1000 * cells) (lw_Z below #[Value.ref b] s) (F0 m 216 ls []) := by
  obtain ⟨ad, Dd, hl, o, x⟩ := S
  obtain ⟨C, hX, hbl, hL⟩ := id X
  obtain ⟨z1, hz1, r1⟩ : ∃ z : Int, xs (i + 1) = iI z ∧ (-2147483648 ≤ z ∧ z < 2147483648) := ⟨(xs (i + 1)).toInt, (iI_of _).symm, iI_rng _⟩
  obtain ⟨r, h1, h2, E1, E2, x2, L1, L2, fs1, ho1⟩ := s_world (l := l) (h := h) x r1
  have l47 := x.len
  obtain ⟨fs0, ho0⟩ := x.o0
  refine lv_aload_n C.1 C.2.1 dL_law_216 rfl (lv_at hl 1 rfl) ?_
  refine lw_sc (k := 1) (pc' := 223) X Dd.2.2.2.1 (lv_at hl 0 rfl) (lv_at hl 4 rfl) (by omega) hz1 dL_law_217 dL_law_218 dL_law_220 dL_law_221 dL_law_222 rfl ?_
  refine wc_V (ci := 5) (a := 0) (pc' := 226) [.int (iI z1)] C Dd hl.1 o ?_ kL_21 mX5_world dL_law_223 rfl rfl rfl rfl (Nat.le_of_ble_eq_true rfl) (Nat.le_of_ble_eq_true rfl) (by decide) ?_ rfl ho0 E1 (fun ad1 H1 locs1 ha1 o1 g1 Dd1 => ?_)
  · intro u hu; rcases List.mem_cons.mp hu with rfl | hu; exact ok_ref (by omega); (try simp only [List.mem_cons, List.not_mem_nil, or_false] at hu); (first | (rcases hu with rfl | rfl | rfl | rfl | rfl <;> exact ok_int _ _) | (rcases hu with rfl | rfl | rfl | rfl <;> exact ok_int _ _) | (rcases hu with rfl | rfl | rfl <;> exact ok_int _ _) | (rcases hu with rfl | rfl <;> exact ok_int _ _) | (subst hu; exact ok_int _ _) | (cases hu))
  · have g1 : h1.length - h.length ≤ 48 := by omega
    show cells + _ ≤ 600128 ∧ 1000 * cells + 1000 * _ ≤ 7301098; omega
  have hl1 := LSt.next hl (ha1 0 (by omega)) (ha1 34 (by omega)) (ha1 46 (by omega))
  refine lv_aload_n C.1 C.2.1 dL_law_226 rfl (lv_at hl1 2 rfl) ?_
  refine lw_sc (k := 1) (pc' := 233) X Dd1.2.2.2.1 (lv_at hl1 0 rfl) (lv_at hl1 4 rfl) (by omega) hz1 dL_law_227 dL_law_228 dL_law_230 dL_law_231 dL_law_232 rfl ?_
  refine wc_V (ci := 6) (a := 34) (pc' := 236) [.int (iI z1)] C Dd1 hl.1 o1 ?_ kL_25 mX6_world dL_law_233 rfl rfl rfl rfl (Nat.le_of_ble_eq_true rfl) (Nat.le_of_ble_eq_true rfl) (by decide) ?_ rfl ho1 E2 (fun ad2 H2 locs2 ha2 o2 g2 Dd2 => ?_)
  · intro u hu; rcases List.mem_cons.mp hu with rfl | hu; exact ok_ref (by omega); (try simp only [List.mem_cons, List.not_mem_nil, or_false] at hu); (first | (rcases hu with rfl | rfl | rfl | rfl | rfl <;> exact ok_int _ _) | (rcases hu with rfl | rfl | rfl | rfl <;> exact ok_int _ _) | (rcases hu with rfl | rfl | rfl <;> exact ok_int _ _) | (rcases hu with rfl | rfl <;> exact ok_int _ _) | (subst hu; exact ok_int _ _) | (cases hu))
  · have g3 : h1.length - h.length ≤ 48 := by omega
    show cells + _ + _ ≤ 600128 ∧ 1000 * (cells + _) + 1000 * _ ≤ 7301098; omega
  have hl2 := LSt.next hl1 (ha2 0 (by omega)) (ha2 34 (by omega)) (ha2 46 (by omega))
  refine lv_icmp_eq (tgt := 1923) C.1 C.2.1 dL_law_236 (by decide) (fun _ => ?_) (fun q => absurd rfl q)
  exact kk _ _ _ _ _ ⟨ad2, Dd2, hl2, o2, x2⟩ (by omega)
theorem law_c1 (X : LX p s m meth c b L xs) (hi : i + 6 ≤ L) (hc : cells ≤ 5000) (S : LSt D aC s b i H locs ls h) (kk : ∀ (H1 : Heap) (locs1 : List Loc) (ls1 : Array Slot) (h1 : ev_H) (cells1 : Nat), LSt D aC s b i H1 locs1 ls1 h1 → cells1 ≤ cells + 50 → W p l e room_1 s m #[Value.ref b] below meth c H1 locs1 cells1 (1000 * cells1) (lw_Z below #[Value.ref b] s) (F0 m 1923 ls1 [])) : W p l e room_1 s m #[Value.ref b] below meth c H locs cells (1000 * cells) (lw_Z below #[Value.ref b] s) (F0 m 241 ls []) := by
  obtain ⟨ad, Dd, hl, o, x⟩ := S
  obtain ⟨C, hX, hbl, hL⟩ := id X
  obtain ⟨z1, hz1, r1⟩ : ∃ z : Int, xs (i + 1) = iI z ∧ (-2147483648 ≤ z ∧ z < 2147483648) := ⟨(xs (i + 1)).toInt, (iI_of _).symm, iI_rng _⟩
  obtain ⟨z2, hz2, r2⟩ : ∃ z : Int, xs (i + 2) = iI z ∧ (-2147483648 ≤ z ∧ z < 2147483648) := ⟨(xs (i + 2)).toInt, (iI_of _).symm, iI_rng _⟩
  obtain ⟨r, h1, h2, E1, E2, x2, L1, L2, fs1, ho1⟩ := s_place (l := l) (h := h) x r1 r2
  have l47 := x.len
  obtain ⟨fs0, ho0⟩ := x.o0
  refine lv_aload_n C.1 C.2.1 dL_law_241 rfl (lv_at hl 1 rfl) ?_
  refine lw_sc (k := 1) (pc' := 248) X Dd.2.2.2.1 (lv_at hl 0 rfl) (lv_at hl 4 rfl) (by omega) hz1 dL_law_242 dL_law_243 dL_law_245 dL_law_246 dL_law_247 rfl ?_
  refine lw_sc (k := 2) (pc' := 254) X Dd.2.2.2.1 (lv_at hl 0 rfl) (lv_at hl 4 rfl) (by omega) hz2 dL_law_248 dL_law_249 dL_law_251 dL_law_252 dL_law_253 rfl ?_
  refine wc_V (ci := 5) (a := 0) (pc' := 257) [.int (iI z1), .int (iI z2)] C Dd hl.1 o ?_ kL_26 mX5_place dL_law_254 rfl rfl rfl rfl (Nat.le_of_ble_eq_true rfl) (Nat.le_of_ble_eq_true rfl) (by decide) ?_ rfl ho0 E1 (fun ad1 H1 locs1 ha1 o1 g1 Dd1 => ?_)
  · intro u hu; rcases List.mem_cons.mp hu with rfl | hu; exact ok_ref (by omega); (try simp only [List.mem_cons, List.not_mem_nil, or_false] at hu); (first | (rcases hu with rfl | rfl | rfl | rfl | rfl <;> exact ok_int _ _) | (rcases hu with rfl | rfl | rfl | rfl <;> exact ok_int _ _) | (rcases hu with rfl | rfl | rfl <;> exact ok_int _ _) | (rcases hu with rfl | rfl <;> exact ok_int _ _) | (subst hu; exact ok_int _ _) | (cases hu))
  · have g1 : h1.length - h.length ≤ 48 := by omega
    show cells + _ ≤ 600128 ∧ 1000 * cells + 1000 * _ ≤ 7301098; omega
  have hl1 := LSt.next hl (ha1 0 (by omega)) (ha1 34 (by omega)) (ha1 46 (by omega))
  refine lv_aload_n C.1 C.2.1 dL_law_257 rfl (lv_at hl1 2 rfl) ?_
  refine lw_sc (k := 1) (pc' := 264) X Dd1.2.2.2.1 (lv_at hl1 0 rfl) (lv_at hl1 4 rfl) (by omega) hz1 dL_law_258 dL_law_259 dL_law_261 dL_law_262 dL_law_263 rfl ?_
  refine lw_sc (k := 2) (pc' := 270) X Dd1.2.2.2.1 (lv_at hl1 0 rfl) (lv_at hl1 4 rfl) (by omega) hz2 dL_law_264 dL_law_265 dL_law_267 dL_law_268 dL_law_269 rfl ?_
  refine wc_V (ci := 6) (a := 34) (pc' := 273) [.int (iI z1), .int (iI z2)] C Dd1 hl.1 o1 ?_ kL_30 mX6_place dL_law_270 rfl rfl rfl rfl (Nat.le_of_ble_eq_true rfl) (Nat.le_of_ble_eq_true rfl) (by decide) ?_ rfl ho1 E2 (fun ad2 H2 locs2 ha2 o2 g2 Dd2 => ?_)
  · intro u hu; rcases List.mem_cons.mp hu with rfl | hu; exact ok_ref (by omega); (try simp only [List.mem_cons, List.not_mem_nil, or_false] at hu); (first | (rcases hu with rfl | rfl | rfl | rfl | rfl <;> exact ok_int _ _) | (rcases hu with rfl | rfl | rfl | rfl <;> exact ok_int _ _) | (rcases hu with rfl | rfl | rfl <;> exact ok_int _ _) | (rcases hu with rfl | rfl <;> exact ok_int _ _) | (subst hu; exact ok_int _ _) | (cases hu))
  · have g3 : h1.length - h.length ≤ 48 := by omega
    show cells + _ + _ ≤ 600128 ∧ 1000 * (cells + _) + 1000 * _ ≤ 7301098; omega
  have hl2 := LSt.next hl1 (ha2 0 (by omega)) (ha2 34 (by omega)) (ha2 46 (by omega))
  refine lv_icmp_eq (tgt := 1923) C.1 C.2.1 dL_law_273 (by decide) (fun _ => ?_) (fun q => absurd rfl q)
  exact kk _ _ _ _ _ ⟨ad2, Dd2, hl2, o2, x2⟩ (by omega)
theorem law_c2 (X : LX p s m meth c b L xs) (hi : i + 6 ≤ L) (hc : cells ≤ 5000) (S : LSt D aC s b i H locs ls h) (kk : ∀ (H1 : Heap) (locs1 : List Loc) (ls1 : Array Slot) (h1 : ev_H) (cells1 : Nat), LSt D aC s b i H1 locs1 ls1 h1 → cells1 ≤ cells + 50 → W p l e room_1 s m #[Value.ref b] below meth c H1 locs1 cells1 (1000 * cells1) (lw_Z below #[Value.ref b] s) (F0 m 1923 ls1 [])) : W p l e room_1 s m #[Value.ref b] below meth c H locs cells (1000 * cells) (lw_Z below #[Value.ref b] s) (F0 m 278 ls []) := by
  obtain ⟨ad, Dd, hl, o, x⟩ := S
  obtain ⟨C, hX, hbl, hL⟩ := id X
  obtain ⟨z1, hz1, r1⟩ : ∃ z : Int, xs (i + 1) = iI z ∧ (-2147483648 ≤ z ∧ z < 2147483648) := ⟨(xs (i + 1)).toInt, (iI_of _).symm, iI_rng _⟩
  obtain ⟨z2, hz2, r2⟩ : ∃ z : Int, xs (i + 2) = iI z ∧ (-2147483648 ≤ z ∧ z < 2147483648) := ⟨(xs (i + 2)).toInt, (iI_of _).symm, iI_rng _⟩
  obtain ⟨r, h1, h2, E1, E2, x2, L1, L2, fs1, ho1⟩ := s_trade (l := l) (h := h) x r1 r2
  have l47 := x.len
  obtain ⟨fs0, ho0⟩ := x.o0
  refine lv_aload_n C.1 C.2.1 dL_law_278 rfl (lv_at hl 1 rfl) ?_
  refine lw_sc (k := 1) (pc' := 285) X Dd.2.2.2.1 (lv_at hl 0 rfl) (lv_at hl 4 rfl) (by omega) hz1 dL_law_279 dL_law_280 dL_law_282 dL_law_283 dL_law_284 rfl ?_
  refine lw_sc (k := 2) (pc' := 291) X Dd.2.2.2.1 (lv_at hl 0 rfl) (lv_at hl 4 rfl) (by omega) hz2 dL_law_285 dL_law_286 dL_law_288 dL_law_289 dL_law_290 rfl ?_
  refine wc_V (ci := 5) (a := 0) (pc' := 294) [.int (iI z1), .int (iI z2)] C Dd hl.1 o ?_ kL_31 mX5_trade dL_law_291 rfl rfl rfl rfl (Nat.le_of_ble_eq_true rfl) (Nat.le_of_ble_eq_true rfl) (by decide) ?_ rfl ho0 E1 (fun ad1 H1 locs1 ha1 o1 g1 Dd1 => ?_)
  · intro u hu; rcases List.mem_cons.mp hu with rfl | hu; exact ok_ref (by omega); (try simp only [List.mem_cons, List.not_mem_nil, or_false] at hu); (first | (rcases hu with rfl | rfl | rfl | rfl | rfl <;> exact ok_int _ _) | (rcases hu with rfl | rfl | rfl | rfl <;> exact ok_int _ _) | (rcases hu with rfl | rfl | rfl <;> exact ok_int _ _) | (rcases hu with rfl | rfl <;> exact ok_int _ _) | (subst hu; exact ok_int _ _) | (cases hu))
  · have g1 : h1.length - h.length ≤ 48 := by omega
    show cells + _ ≤ 600128 ∧ 1000 * cells + 1000 * _ ≤ 7301098; omega
  have hl1 := LSt.next hl (ha1 0 (by omega)) (ha1 34 (by omega)) (ha1 46 (by omega))
  refine lv_aload_n C.1 C.2.1 dL_law_294 rfl (lv_at hl1 2 rfl) ?_
  refine lw_sc (k := 1) (pc' := 301) X Dd1.2.2.2.1 (lv_at hl1 0 rfl) (lv_at hl1 4 rfl) (by omega) hz1 dL_law_295 dL_law_296 dL_law_298 dL_law_299 dL_law_300 rfl ?_
  refine lw_sc (k := 2) (pc' := 307) X Dd1.2.2.2.1 (lv_at hl1 0 rfl) (lv_at hl1 4 rfl) (by omega) hz2 dL_law_301 dL_law_302 dL_law_304 dL_law_305 dL_law_306 rfl ?_
  refine wc_V (ci := 6) (a := 34) (pc' := 310) [.int (iI z1), .int (iI z2)] C Dd1 hl.1 o1 ?_ kL_34 mX6_trade dL_law_307 rfl rfl rfl rfl (Nat.le_of_ble_eq_true rfl) (Nat.le_of_ble_eq_true rfl) (by decide) ?_ rfl ho1 E2 (fun ad2 H2 locs2 ha2 o2 g2 Dd2 => ?_)
  · intro u hu; rcases List.mem_cons.mp hu with rfl | hu; exact ok_ref (by omega); (try simp only [List.mem_cons, List.not_mem_nil, or_false] at hu); (first | (rcases hu with rfl | rfl | rfl | rfl | rfl <;> exact ok_int _ _) | (rcases hu with rfl | rfl | rfl | rfl <;> exact ok_int _ _) | (rcases hu with rfl | rfl | rfl <;> exact ok_int _ _) | (rcases hu with rfl | rfl <;> exact ok_int _ _) | (subst hu; exact ok_int _ _) | (cases hu))
  · have g3 : h1.length - h.length ≤ 48 := by omega
    show cells + _ + _ ≤ 600128 ∧ 1000 * (cells + _) + 1000 * _ ≤ 7301098; omega
  have hl2 := LSt.next hl1 (ha2 0 (by omega)) (ha2 34 (by omega)) (ha2 46 (by omega))
  refine lv_icmp_eq (tgt := 1923) C.1 C.2.1 dL_law_310 (by decide) (fun _ => ?_) (fun q => absurd rfl q)
  exact kk _ _ _ _ _ ⟨ad2, Dd2, hl2, o2, x2⟩ (by omega)
theorem law_c3 (X : LX p s m meth c b L xs) (hi : i + 6 ≤ L) (hc : cells ≤ 5000) (S : LSt D aC s b i H locs ls h) (kk : ∀ (H1 : Heap) (locs1 : List Loc) (ls1 : Array Slot) (h1 : ev_H) (cells1 : Nat), LSt D aC s b i H1 locs1 ls1 h1 → cells1 ≤ cells + 50 → W p l e room_1 s m #[Value.ref b] below meth c H1 locs1 cells1 (1000 * cells1) (lw_Z below #[Value.ref b] s) (F0 m 1923 ls1 [])) : W p l e room_1 s m #[Value.ref b] below meth c H locs cells (1000 * cells) (lw_Z below #[Value.ref b] s) (F0 m 315 ls []) := by
  obtain ⟨ad, Dd, hl, o, x⟩ := S
  obtain ⟨C, hX, hbl, hL⟩ := id X
  obtain ⟨z1, hz1, r1⟩ : ∃ z : Int, xs (i + 1) = iI z ∧ (-2147483648 ≤ z ∧ z < 2147483648) := ⟨(xs (i + 1)).toInt, (iI_of _).symm, iI_rng _⟩
  obtain ⟨z2, hz2, r2⟩ : ∃ z : Int, xs (i + 2) = iI z ∧ (-2147483648 ≤ z ∧ z < 2147483648) := ⟨(xs (i + 2)).toInt, (iI_of _).symm, iI_rng _⟩
  obtain ⟨r, h1, h2, E1, E2, x2, L1, L2, fs1, ho1⟩ := s_choose (l := l) (h := h) x r1 r2
  have l47 := x.len
  obtain ⟨fs0, ho0⟩ := x.o0
  refine lv_aload_n C.1 C.2.1 dL_law_315 rfl (lv_at hl 1 rfl) ?_
  refine lw_sc (k := 1) (pc' := 322) X Dd.2.2.2.1 (lv_at hl 0 rfl) (lv_at hl 4 rfl) (by omega) hz1 dL_law_316 dL_law_317 dL_law_319 dL_law_320 dL_law_321 rfl ?_
  refine lw_sc (k := 2) (pc' := 328) X Dd.2.2.2.1 (lv_at hl 0 rfl) (lv_at hl 4 rfl) (by omega) hz2 dL_law_322 dL_law_323 dL_law_325 dL_law_326 dL_law_327 rfl ?_
  refine wc_V (ci := 5) (a := 0) (pc' := 331) [.int (iI z1), .int (iI z2)] C Dd hl.1 o ?_ kL_35 mX5_choose dL_law_328 rfl rfl rfl rfl (Nat.le_of_ble_eq_true rfl) (Nat.le_of_ble_eq_true rfl) (by decide) ?_ rfl ho0 E1 (fun ad1 H1 locs1 ha1 o1 g1 Dd1 => ?_)
  · intro u hu; rcases List.mem_cons.mp hu with rfl | hu; exact ok_ref (by omega); (try simp only [List.mem_cons, List.not_mem_nil, or_false] at hu); (first | (rcases hu with rfl | rfl | rfl | rfl | rfl <;> exact ok_int _ _) | (rcases hu with rfl | rfl | rfl | rfl <;> exact ok_int _ _) | (rcases hu with rfl | rfl | rfl <;> exact ok_int _ _) | (rcases hu with rfl | rfl <;> exact ok_int _ _) | (subst hu; exact ok_int _ _) | (cases hu))
  · have g1 : h1.length - h.length ≤ 48 := by omega
    show cells + _ ≤ 600128 ∧ 1000 * cells + 1000 * _ ≤ 7301098; omega
  have hl1 := LSt.next hl (ha1 0 (by omega)) (ha1 34 (by omega)) (ha1 46 (by omega))
  refine lv_aload_n C.1 C.2.1 dL_law_331 rfl (lv_at hl1 2 rfl) ?_
  refine lw_sc (k := 1) (pc' := 338) X Dd1.2.2.2.1 (lv_at hl1 0 rfl) (lv_at hl1 4 rfl) (by omega) hz1 dL_law_332 dL_law_333 dL_law_335 dL_law_336 dL_law_337 rfl ?_
  refine lw_sc (k := 2) (pc' := 344) X Dd1.2.2.2.1 (lv_at hl1 0 rfl) (lv_at hl1 4 rfl) (by omega) hz2 dL_law_338 dL_law_339 dL_law_341 dL_law_342 dL_law_343 rfl ?_
  refine wc_V (ci := 6) (a := 34) (pc' := 347) [.int (iI z1), .int (iI z2)] C Dd1 hl.1 o1 ?_ kL_38 mX6_choose dL_law_344 rfl rfl rfl rfl (Nat.le_of_ble_eq_true rfl) (Nat.le_of_ble_eq_true rfl) (by decide) ?_ rfl ho1 E2 (fun ad2 H2 locs2 ha2 o2 g2 Dd2 => ?_)
  · intro u hu; rcases List.mem_cons.mp hu with rfl | hu; exact ok_ref (by omega); (try simp only [List.mem_cons, List.not_mem_nil, or_false] at hu); (first | (rcases hu with rfl | rfl | rfl | rfl | rfl <;> exact ok_int _ _) | (rcases hu with rfl | rfl | rfl | rfl <;> exact ok_int _ _) | (rcases hu with rfl | rfl | rfl <;> exact ok_int _ _) | (rcases hu with rfl | rfl <;> exact ok_int _ _) | (subst hu; exact ok_int _ _) | (cases hu))
  · have g3 : h1.length - h.length ≤ 48 := by omega
    show cells + _ + _ ≤ 600128 ∧ 1000 * (cells + _) + 1000 * _ ≤ 7301098; omega
  have hl2 := LSt.next hl1 (ha2 0 (by omega)) (ha2 34 (by omega)) (ha2 46 (by omega))
  refine lv_icmp_eq (tgt := 1923) C.1 C.2.1 dL_law_347 (by decide) (fun _ => ?_) (fun q => absurd rfl q)
  exact kk _ _ _ _ _ ⟨ad2, Dd2, hl2, o2, x2⟩ (by omega)
theorem law_c4 (X : LX p s m meth c b L xs) (hi : i + 6 ≤ L) (hc : cells ≤ 5000) (S : LSt D aC s b i H locs ls h) (kk : ∀ (H1 : Heap) (locs1 : List Loc) (ls1 : Array Slot) (h1 : ev_H) (cells1 : Nat), LSt D aC s b i H1 locs1 ls1 h1 → cells1 ≤ cells + 50 → W p l e room_1 s m #[Value.ref b] below meth c H1 locs1 cells1 (1000 * cells1) (lw_Z below #[Value.ref b] s) (F0 m 1923 ls1 [])) : W p l e room_1 s m #[Value.ref b] below meth c H locs cells (1000 * cells) (lw_Z below #[Value.ref b] s) (F0 m 352 ls []) := by
  obtain ⟨ad, Dd, hl, o, x⟩ := S
  obtain ⟨C, hX, hbl, hL⟩ := id X
  obtain ⟨z1, hz1, r1⟩ : ∃ z : Int, xs (i + 1) = iI z ∧ (-2147483648 ≤ z ∧ z < 2147483648) := ⟨(xs (i + 1)).toInt, (iI_of _).symm, iI_rng _⟩
  obtain ⟨r, h1, h2, E1, E2, x2, L1, L2, fs1, ho1⟩ := s_line (l := l) (h := h) x r1
  have l47 := x.len
  obtain ⟨fs0, ho0⟩ := x.o0
  refine lv_aload_n C.1 C.2.1 dL_law_352 rfl (lv_at hl 1 rfl) ?_
  refine lw_sc (k := 1) (pc' := 359) X Dd.2.2.2.1 (lv_at hl 0 rfl) (lv_at hl 4 rfl) (by omega) hz1 dL_law_353 dL_law_354 dL_law_356 dL_law_357 dL_law_358 rfl ?_
  refine wc_V (ci := 5) (a := 0) (pc' := 362) [.int (iI z1)] C Dd hl.1 o ?_ kL_39 mX5_line dL_law_359 rfl rfl rfl rfl (Nat.le_of_ble_eq_true rfl) (Nat.le_of_ble_eq_true rfl) (by decide) ?_ rfl ho0 E1 (fun ad1 H1 locs1 ha1 o1 g1 Dd1 => ?_)
  · intro u hu; rcases List.mem_cons.mp hu with rfl | hu; exact ok_ref (by omega); (try simp only [List.mem_cons, List.not_mem_nil, or_false] at hu); (first | (rcases hu with rfl | rfl | rfl | rfl | rfl <;> exact ok_int _ _) | (rcases hu with rfl | rfl | rfl | rfl <;> exact ok_int _ _) | (rcases hu with rfl | rfl | rfl <;> exact ok_int _ _) | (rcases hu with rfl | rfl <;> exact ok_int _ _) | (subst hu; exact ok_int _ _) | (cases hu))
  · have g1 : h1.length - h.length ≤ 48 := by omega
    show cells + _ ≤ 600128 ∧ 1000 * cells + 1000 * _ ≤ 7301098; omega
  have hl1 := LSt.next hl (ha1 0 (by omega)) (ha1 34 (by omega)) (ha1 46 (by omega))
  refine lv_aload_n C.1 C.2.1 dL_law_362 rfl (lv_at hl1 2 rfl) ?_
  refine lw_sc (k := 1) (pc' := 369) X Dd1.2.2.2.1 (lv_at hl1 0 rfl) (lv_at hl1 4 rfl) (by omega) hz1 dL_law_363 dL_law_364 dL_law_366 dL_law_367 dL_law_368 rfl ?_
  refine wc_V (ci := 6) (a := 34) (pc' := 372) [.int (iI z1)] C Dd1 hl.1 o1 ?_ kL_42 mX6_line dL_law_369 rfl rfl rfl rfl (Nat.le_of_ble_eq_true rfl) (Nat.le_of_ble_eq_true rfl) (by decide) ?_ rfl ho1 E2 (fun ad2 H2 locs2 ha2 o2 g2 Dd2 => ?_)
  · intro u hu; rcases List.mem_cons.mp hu with rfl | hu; exact ok_ref (by omega); (try simp only [List.mem_cons, List.not_mem_nil, or_false] at hu); (first | (rcases hu with rfl | rfl | rfl | rfl | rfl <;> exact ok_int _ _) | (rcases hu with rfl | rfl | rfl | rfl <;> exact ok_int _ _) | (rcases hu with rfl | rfl | rfl <;> exact ok_int _ _) | (rcases hu with rfl | rfl <;> exact ok_int _ _) | (subst hu; exact ok_int _ _) | (cases hu))
  · have g3 : h1.length - h.length ≤ 48 := by omega
    show cells + _ + _ ≤ 600128 ∧ 1000 * (cells + _) + 1000 * _ ≤ 7301098; omega
  have hl2 := LSt.next hl1 (ha2 0 (by omega)) (ha2 34 (by omega)) (ha2 46 (by omega))
  refine lv_icmp_eq (tgt := 1923) C.1 C.2.1 dL_law_372 (by decide) (fun _ => ?_) (fun q => absurd rfl q)
  exact kk _ _ _ _ _ ⟨ad2, Dd2, hl2, o2, x2⟩ (by omega)
theorem law_c5 (X : LX p s m meth c b L xs) (hi : i + 6 ≤ L) (hc : cells ≤ 5000) (S : LSt D aC s b i H locs ls h) (kk : ∀ (H1 : Heap) (locs1 : List Loc) (ls1 : Array Slot) (h1 : ev_H) (cells1 : Nat), LSt D aC s b i H1 locs1 ls1 h1 → cells1 ≤ cells + 50 → W p l e room_1 s m #[Value.ref b] below meth c H1 locs1 cells1 (1000 * cells1) (lw_Z below #[Value.ref b] s) (F0 m 1923 ls1 [])) : W p l e room_1 s m #[Value.ref b] below meth c H locs cells (1000 * cells) (lw_Z below #[Value.ref b] s) (F0 m 377 ls []) := by
  obtain ⟨ad, Dd, hl, o, x⟩ := S
  obtain ⟨C, hX, hbl, hL⟩ := id X
  obtain ⟨z1, hz1, r1⟩ : ∃ z : Int, xs (i + 1) = iI z ∧ (-2147483648 ≤ z ∧ z < 2147483648) := ⟨(xs (i + 1)).toInt, (iI_of _).symm, iI_rng _⟩
  obtain ⟨z2, hz2, r2⟩ : ∃ z : Int, xs (i + 2) = iI z ∧ (-2147483648 ≤ z ∧ z < 2147483648) := ⟨(xs (i + 2)).toInt, (iI_of _).symm, iI_rng _⟩
  obtain ⟨r, h1, h2, E1, E2, x2, L1, L2, fs1, ho1⟩ := s_dayOf (l := l) (h := h) x r1 r2
  have l47 := x.len
  obtain ⟨fs0, ho0⟩ := x.o0
  refine lv_aload_n C.1 C.2.1 dL_law_377 rfl (lv_at hl 1 rfl) ?_
  refine lw_sc (k := 1) (pc' := 384) X Dd.2.2.2.1 (lv_at hl 0 rfl) (lv_at hl 4 rfl) (by omega) hz1 dL_law_378 dL_law_379 dL_law_381 dL_law_382 dL_law_383 rfl ?_
  refine lw_sc (k := 2) (pc' := 390) X Dd.2.2.2.1 (lv_at hl 0 rfl) (lv_at hl 4 rfl) (by omega) hz2 dL_law_384 dL_law_385 dL_law_387 dL_law_388 dL_law_389 rfl ?_
  refine wc_V (ci := 5) (a := 0) (pc' := 393) [.int (iI z1), .int (iI z2)] C Dd hl.1 o ?_ kL_43 mX5_dayOf dL_law_390 rfl rfl rfl rfl (Nat.le_of_ble_eq_true rfl) (Nat.le_of_ble_eq_true rfl) (by decide) ?_ rfl ho0 E1 (fun ad1 H1 locs1 ha1 o1 g1 Dd1 => ?_)
  · intro u hu; rcases List.mem_cons.mp hu with rfl | hu; exact ok_ref (by omega); (try simp only [List.mem_cons, List.not_mem_nil, or_false] at hu); (first | (rcases hu with rfl | rfl | rfl | rfl | rfl <;> exact ok_int _ _) | (rcases hu with rfl | rfl | rfl | rfl <;> exact ok_int _ _) | (rcases hu with rfl | rfl | rfl <;> exact ok_int _ _) | (rcases hu with rfl | rfl <;> exact ok_int _ _) | (subst hu; exact ok_int _ _) | (cases hu))
  · have g1 : h1.length - h.length ≤ 48 := by omega
    show cells + _ ≤ 600128 ∧ 1000 * cells + 1000 * _ ≤ 7301098; omega
  have hl1 := LSt.next hl (ha1 0 (by omega)) (ha1 34 (by omega)) (ha1 46 (by omega))
  refine lv_aload_n C.1 C.2.1 dL_law_393 rfl (lv_at hl1 2 rfl) ?_
  refine lw_sc (k := 1) (pc' := 400) X Dd1.2.2.2.1 (lv_at hl1 0 rfl) (lv_at hl1 4 rfl) (by omega) hz1 dL_law_394 dL_law_395 dL_law_397 dL_law_398 dL_law_399 rfl ?_
  refine lw_sc (k := 2) (pc' := 406) X Dd1.2.2.2.1 (lv_at hl1 0 rfl) (lv_at hl1 4 rfl) (by omega) hz2 dL_law_400 dL_law_401 dL_law_403 dL_law_404 dL_law_405 rfl ?_
  refine wc_V (ci := 6) (a := 34) (pc' := 409) [.int (iI z1), .int (iI z2)] C Dd1 hl.1 o1 ?_ kL_46 mX6_dayOf dL_law_406 rfl rfl rfl rfl (Nat.le_of_ble_eq_true rfl) (Nat.le_of_ble_eq_true rfl) (by decide) ?_ rfl ho1 E2 (fun ad2 H2 locs2 ha2 o2 g2 Dd2 => ?_)
  · intro u hu; rcases List.mem_cons.mp hu with rfl | hu; exact ok_ref (by omega); (try simp only [List.mem_cons, List.not_mem_nil, or_false] at hu); (first | (rcases hu with rfl | rfl | rfl | rfl | rfl <;> exact ok_int _ _) | (rcases hu with rfl | rfl | rfl | rfl <;> exact ok_int _ _) | (rcases hu with rfl | rfl | rfl <;> exact ok_int _ _) | (rcases hu with rfl | rfl <;> exact ok_int _ _) | (subst hu; exact ok_int _ _) | (cases hu))
  · have g3 : h1.length - h.length ≤ 48 := by omega
    show cells + _ + _ ≤ 600128 ∧ 1000 * (cells + _) + 1000 * _ ≤ 7301098; omega
  have hl2 := LSt.next hl1 (ha2 0 (by omega)) (ha2 34 (by omega)) (ha2 46 (by omega))
  refine lv_icmp_eq (tgt := 1923) C.1 C.2.1 dL_law_409 (by decide) (fun _ => ?_) (fun q => absurd rfl q)
  exact kk _ _ _ _ _ ⟨ad2, Dd2, hl2, o2, x2⟩ (by omega)
theorem law_c6 (X : LX p s m meth c b L xs) (hi : i + 6 ≤ L) (hc : cells ≤ 5000) (S : LSt D aC s b i H locs ls h) (kk : ∀ (H1 : Heap) (locs1 : List Loc) (ls1 : Array Slot) (h1 : ev_H) (cells1 : Nat), LSt D aC s b i H1 locs1 ls1 h1 → cells1 ≤ cells + 50 → W p l e room_1 s m #[Value.ref b] below meth c H1 locs1 cells1 (1000 * cells1) (lw_Z below #[Value.ref b] s) (F0 m 1923 ls1 [])) : W p l e room_1 s m #[Value.ref b] below meth c H locs cells (1000 * cells) (lw_Z below #[Value.ref b] s) (F0 m 414 ls []) := by
  obtain ⟨ad, Dd, hl, o, x⟩ := S
  obtain ⟨C, hX, hbl, hL⟩ := id X
  obtain ⟨z1, hz1, r1⟩ : ∃ z : Int, xs (i + 1) = iI z ∧ (-2147483648 ≤ z ∧ z < 2147483648) := ⟨(xs (i + 1)).toInt, (iI_of _).symm, iI_rng _⟩
  obtain ⟨z2, hz2, r2⟩ : ∃ z : Int, xs (i + 2) = iI z ∧ (-2147483648 ≤ z ∧ z < 2147483648) := ⟨(xs (i + 2)).toInt, (iI_of _).symm, iI_rng _⟩
  obtain ⟨r, h1, h2, E1, E2, x2, L1, L2, fs1, ho1⟩ := s_hourOf (l := l) (h := h) x r1 r2
  have l47 := x.len
  obtain ⟨fs0, ho0⟩ := x.o0
  refine lv_aload_n C.1 C.2.1 dL_law_414 rfl (lv_at hl 1 rfl) ?_
  refine lw_sc (k := 1) (pc' := 421) X Dd.2.2.2.1 (lv_at hl 0 rfl) (lv_at hl 4 rfl) (by omega) hz1 dL_law_415 dL_law_416 dL_law_418 dL_law_419 dL_law_420 rfl ?_
  refine lw_sc (k := 2) (pc' := 427) X Dd.2.2.2.1 (lv_at hl 0 rfl) (lv_at hl 4 rfl) (by omega) hz2 dL_law_421 dL_law_422 dL_law_424 dL_law_425 dL_law_426 rfl ?_
  refine wc_V (ci := 5) (a := 0) (pc' := 430) [.int (iI z1), .int (iI z2)] C Dd hl.1 o ?_ kL_47 mX5_hourOf dL_law_427 rfl rfl rfl rfl (Nat.le_of_ble_eq_true rfl) (Nat.le_of_ble_eq_true rfl) (by decide) ?_ rfl ho0 E1 (fun ad1 H1 locs1 ha1 o1 g1 Dd1 => ?_)
  · intro u hu; rcases List.mem_cons.mp hu with rfl | hu; exact ok_ref (by omega); (try simp only [List.mem_cons, List.not_mem_nil, or_false] at hu); (first | (rcases hu with rfl | rfl | rfl | rfl | rfl <;> exact ok_int _ _) | (rcases hu with rfl | rfl | rfl | rfl <;> exact ok_int _ _) | (rcases hu with rfl | rfl | rfl <;> exact ok_int _ _) | (rcases hu with rfl | rfl <;> exact ok_int _ _) | (subst hu; exact ok_int _ _) | (cases hu))
  · have g1 : h1.length - h.length ≤ 48 := by omega
    show cells + _ ≤ 600128 ∧ 1000 * cells + 1000 * _ ≤ 7301098; omega
  have hl1 := LSt.next hl (ha1 0 (by omega)) (ha1 34 (by omega)) (ha1 46 (by omega))
  refine lv_aload_n C.1 C.2.1 dL_law_430 rfl (lv_at hl1 2 rfl) ?_
  refine lw_sc (k := 1) (pc' := 437) X Dd1.2.2.2.1 (lv_at hl1 0 rfl) (lv_at hl1 4 rfl) (by omega) hz1 dL_law_431 dL_law_432 dL_law_434 dL_law_435 dL_law_436 rfl ?_
  refine lw_sc (k := 2) (pc' := 443) X Dd1.2.2.2.1 (lv_at hl1 0 rfl) (lv_at hl1 4 rfl) (by omega) hz2 dL_law_437 dL_law_438 dL_law_440 dL_law_441 dL_law_442 rfl ?_
  refine wc_V (ci := 6) (a := 34) (pc' := 446) [.int (iI z1), .int (iI z2)] C Dd1 hl.1 o1 ?_ kL_50 mX6_hourOf dL_law_443 rfl rfl rfl rfl (Nat.le_of_ble_eq_true rfl) (Nat.le_of_ble_eq_true rfl) (by decide) ?_ rfl ho1 E2 (fun ad2 H2 locs2 ha2 o2 g2 Dd2 => ?_)
  · intro u hu; rcases List.mem_cons.mp hu with rfl | hu; exact ok_ref (by omega); (try simp only [List.mem_cons, List.not_mem_nil, or_false] at hu); (first | (rcases hu with rfl | rfl | rfl | rfl | rfl <;> exact ok_int _ _) | (rcases hu with rfl | rfl | rfl | rfl <;> exact ok_int _ _) | (rcases hu with rfl | rfl | rfl <;> exact ok_int _ _) | (rcases hu with rfl | rfl <;> exact ok_int _ _) | (subst hu; exact ok_int _ _) | (cases hu))
  · have g3 : h1.length - h.length ≤ 48 := by omega
    show cells + _ + _ ≤ 600128 ∧ 1000 * (cells + _) + 1000 * _ ≤ 7301098; omega
  have hl2 := LSt.next hl1 (ha2 0 (by omega)) (ha2 34 (by omega)) (ha2 46 (by omega))
  refine lv_icmp_eq (tgt := 1923) C.1 C.2.1 dL_law_446 (by decide) (fun _ => ?_) (fun q => absurd rfl q)
  exact kk _ _ _ _ _ ⟨ad2, Dd2, hl2, o2, x2⟩ (by omega)
theorem law_c7 (X : LX p s m meth c b L xs) (hi : i + 6 ≤ L) (hc : cells ≤ 5000) (S : LSt D aC s b i H locs ls h) (kk : ∀ (H1 : Heap) (locs1 : List Loc) (ls1 : Array Slot) (h1 : ev_H) (cells1 : Nat), LSt D aC s b i H1 locs1 ls1 h1 → cells1 ≤ cells + 50 → W p l e room_1 s m #[Value.ref b] below meth c H1 locs1 cells1 (1000 * cells1) (lw_Z below #[Value.ref b] s) (F0 m 1923 ls1 [])) : W p l e room_1 s m #[Value.ref b] below meth c H locs cells (1000 * cells) (lw_Z below #[Value.ref b] s) (F0 m 451 ls []) := by
  obtain ⟨ad, Dd, hl, o, x⟩ := S
  obtain ⟨C, hX, hbl, hL⟩ := id X
  obtain ⟨z1, hz1, r1⟩ : ∃ z : Int, xs (i + 1) = iI z ∧ (-2147483648 ≤ z ∧ z < 2147483648) := ⟨(xs (i + 1)).toInt, (iI_of _).symm, iI_rng _⟩
  obtain ⟨z2, hz2, r2⟩ : ∃ z : Int, xs (i + 2) = iI z ∧ (-2147483648 ≤ z ∧ z < 2147483648) := ⟨(xs (i + 2)).toInt, (iI_of _).symm, iI_rng _⟩
  obtain ⟨z3, hz3, r3⟩ : ∃ z : Int, xs (i + 3) = iI z ∧ (-2147483648 ≤ z ∧ z < 2147483648) := ⟨(xs (i + 3)).toInt, (iI_of _).symm, iI_rng _⟩
  obtain ⟨r, h1, h2, E1, E2, x2, L1, L2, fs1, ho1⟩ := s_traveller (l := l) (h := h) x r1 r2 r3
  have l47 := x.len
  obtain ⟨fs0, ho0⟩ := x.o0
  refine lv_aload_n C.1 C.2.1 dL_law_451 rfl (lv_at hl 1 rfl) ?_
  refine lw_sc (k := 1) (pc' := 458) X Dd.2.2.2.1 (lv_at hl 0 rfl) (lv_at hl 4 rfl) (by omega) hz1 dL_law_452 dL_law_453 dL_law_455 dL_law_456 dL_law_457 rfl ?_
  refine lw_sc (k := 2) (pc' := 464) X Dd.2.2.2.1 (lv_at hl 0 rfl) (lv_at hl 4 rfl) (by omega) hz2 dL_law_458 dL_law_459 dL_law_461 dL_law_462 dL_law_463 rfl ?_
  refine lw_sc (k := 3) (pc' := 470) X Dd.2.2.2.1 (lv_at hl 0 rfl) (lv_at hl 4 rfl) (by omega) hz3 dL_law_464 dL_law_465 dL_law_467 dL_law_468 dL_law_469 rfl ?_
  refine wc_V (ci := 5) (a := 0) (pc' := 473) [.int (iI z1), .int (iI z2), .int (iI z3)] C Dd hl.1 o ?_ kL_51 mX5_traveller dL_law_470 rfl rfl rfl rfl (Nat.le_of_ble_eq_true rfl) (Nat.le_of_ble_eq_true rfl) (by decide) ?_ rfl ho0 E1 (fun ad1 H1 locs1 ha1 o1 g1 Dd1 => ?_)
  · intro u hu; rcases List.mem_cons.mp hu with rfl | hu; exact ok_ref (by omega); (try simp only [List.mem_cons, List.not_mem_nil, or_false] at hu); (first | (rcases hu with rfl | rfl | rfl | rfl | rfl <;> exact ok_int _ _) | (rcases hu with rfl | rfl | rfl | rfl <;> exact ok_int _ _) | (rcases hu with rfl | rfl | rfl <;> exact ok_int _ _) | (rcases hu with rfl | rfl <;> exact ok_int _ _) | (subst hu; exact ok_int _ _) | (cases hu))
  · have g1 : h1.length - h.length ≤ 48 := by omega
    show cells + _ ≤ 600128 ∧ 1000 * cells + 1000 * _ ≤ 7301098; omega
  have hl1 := LSt.next hl (ha1 0 (by omega)) (ha1 34 (by omega)) (ha1 46 (by omega))
  refine lv_aload_n C.1 C.2.1 dL_law_473 rfl (lv_at hl1 2 rfl) ?_
  refine lw_sc (k := 1) (pc' := 480) X Dd1.2.2.2.1 (lv_at hl1 0 rfl) (lv_at hl1 4 rfl) (by omega) hz1 dL_law_474 dL_law_475 dL_law_477 dL_law_478 dL_law_479 rfl ?_
  refine lw_sc (k := 2) (pc' := 486) X Dd1.2.2.2.1 (lv_at hl1 0 rfl) (lv_at hl1 4 rfl) (by omega) hz2 dL_law_480 dL_law_481 dL_law_483 dL_law_484 dL_law_485 rfl ?_
  refine lw_sc (k := 3) (pc' := 492) X Dd1.2.2.2.1 (lv_at hl1 0 rfl) (lv_at hl1 4 rfl) (by omega) hz3 dL_law_486 dL_law_487 dL_law_489 dL_law_490 dL_law_491 rfl ?_
  refine wc_V (ci := 6) (a := 34) (pc' := 495) [.int (iI z1), .int (iI z2), .int (iI z3)] C Dd1 hl.1 o1 ?_ kL_55 mX6_traveller dL_law_492 rfl rfl rfl rfl (Nat.le_of_ble_eq_true rfl) (Nat.le_of_ble_eq_true rfl) (by decide) ?_ rfl ho1 E2 (fun ad2 H2 locs2 ha2 o2 g2 Dd2 => ?_)
  · intro u hu; rcases List.mem_cons.mp hu with rfl | hu; exact ok_ref (by omega); (try simp only [List.mem_cons, List.not_mem_nil, or_false] at hu); (first | (rcases hu with rfl | rfl | rfl | rfl | rfl <;> exact ok_int _ _) | (rcases hu with rfl | rfl | rfl | rfl <;> exact ok_int _ _) | (rcases hu with rfl | rfl | rfl <;> exact ok_int _ _) | (rcases hu with rfl | rfl <;> exact ok_int _ _) | (subst hu; exact ok_int _ _) | (cases hu))
  · have g3 : h1.length - h.length ≤ 48 := by omega
    show cells + _ + _ ≤ 600128 ∧ 1000 * (cells + _) + 1000 * _ ≤ 7301098; omega
  have hl2 := LSt.next hl1 (ha2 0 (by omega)) (ha2 34 (by omega)) (ha2 46 (by omega))
  refine lv_icmp_eq (tgt := 1923) C.1 C.2.1 dL_law_495 (by decide) (fun _ => ?_) (fun q => absurd rfl q)
  exact kk _ _ _ _ _ ⟨ad2, Dd2, hl2, o2, x2⟩ (by omega)
theorem law_c8 (X : LX p s m meth c b L xs) (hi : i + 6 ≤ L) (hc : cells ≤ 5000) (S : LSt D aC s b i H locs ls h) (kk : ∀ (H1 : Heap) (locs1 : List Loc) (ls1 : Array Slot) (h1 : ev_H) (cells1 : Nat), LSt D aC s b i H1 locs1 ls1 h1 → cells1 ≤ cells + 50 → W p l e room_1 s m #[Value.ref b] below meth c H1 locs1 cells1 (1000 * cells1) (lw_Z below #[Value.ref b] s) (F0 m 1923 ls1 [])) : W p l e room_1 s m #[Value.ref b] below meth c H locs cells (1000 * cells) (lw_Z below #[Value.ref b] s) (F0 m 500 ls []) := by
  obtain ⟨ad, Dd, hl, o, x⟩ := S
  obtain ⟨C, hX, hbl, hL⟩ := id X
  obtain ⟨z1, hz1, r1⟩ : ∃ z : Int, xs (i + 1) = iI z ∧ (-2147483648 ≤ z ∧ z < 2147483648) := ⟨(xs (i + 1)).toInt, (iI_of _).symm, iI_rng _⟩
  obtain ⟨z2, hz2, r2⟩ : ∃ z : Int, xs (i + 2) = iI z ∧ (-2147483648 ≤ z ∧ z < 2147483648) := ⟨(xs (i + 2)).toInt, (iI_of _).symm, iI_rng _⟩
  obtain ⟨z3, hz3, r3⟩ : ∃ z : Int, xs (i + 3) = iI z ∧ (-2147483648 ≤ z ∧ z < 2147483648) := ⟨(xs (i + 3)).toInt, (iI_of _).symm, iI_rng _⟩
  obtain ⟨z4, hz4, r4⟩ : ∃ z : Int, xs (i + 4) = iI z ∧ (-2147483648 ≤ z ∧ z < 2147483648) := ⟨(xs (i + 4)).toInt, (iI_of _).symm, iI_rng _⟩
  obtain ⟨z5, hz5, r5⟩ : ∃ z : Int, xs (i + 5) = iI z ∧ (-2147483648 ≤ z ∧ z < 2147483648) := ⟨(xs (i + 5)).toInt, (iI_of _).symm, iI_rng _⟩
  obtain ⟨z3b, hz3b, hb0⟩ : ∃ z : Int, (if z3 = 0 then 0 else 1) = z ∧ (z = 0 ∨ z = 1) := ⟨_, rfl, by split <;> omega⟩
  obtain ⟨r, h1, h2, E1, E2, x2, L1, L2, fs1, ho1⟩ := s_leg (l := l) (h := h) x r1 r2 (by omega) r4 r5 hb0
  have l47 := x.len
  obtain ⟨fs0, ho0⟩ := x.o0
  refine lv_aload_n C.1 C.2.1 dL_law_500 rfl (lv_at hl 1 rfl) ?_
  refine lw_sc (k := 1) (pc' := 507) X Dd.2.2.2.1 (lv_at hl 0 rfl) (lv_at hl 4 rfl) (by omega) hz1 dL_law_501 dL_law_502 dL_law_504 dL_law_505 dL_law_506 rfl ?_
  refine lw_sc (k := 2) (pc' := 513) X Dd.2.2.2.1 (lv_at hl 0 rfl) (lv_at hl 4 rfl) (by omega) hz2 dL_law_507 dL_law_508 dL_law_510 dL_law_511 dL_law_512 rfl ?_
  refine lw_sc (k := 3) (pc' := 519) X Dd.2.2.2.1 (lv_at hl 0 rfl) (lv_at hl 4 rfl) (by omega) hz3 dL_law_513 dL_law_514 dL_law_516 dL_law_517 dL_law_518 rfl ?_
  refine lw_ne (pc' := 527) X r3 dL_law_519 dL_law_522 dL_law_523 dL_law_526 rfl ?_
  rw [hz3b]
  refine lw_sc (k := 4) (pc' := 533) X Dd.2.2.2.1 (lv_at hl 0 rfl) (lv_at hl 4 rfl) (by omega) hz4 dL_law_527 dL_law_528 dL_law_530 dL_law_531 dL_law_532 rfl ?_
  refine lw_sc (k := 5) (pc' := 539) X Dd.2.2.2.1 (lv_at hl 0 rfl) (lv_at hl 4 rfl) (by omega) hz5 dL_law_533 dL_law_534 dL_law_536 dL_law_537 dL_law_538 rfl ?_
  refine wc_V (ci := 5) (a := 0) (pc' := 542) [.int (iI z1), .int (iI z2), .int (iI z3b), .int (iI z4), .int (iI z5)] C Dd hl.1 o ?_ kL_56 mX5_leg dL_law_539 rfl rfl rfl rfl (Nat.le_of_ble_eq_true rfl) (Nat.le_of_ble_eq_true rfl) (by decide) ?_ rfl ho0 E1 (fun ad1 H1 locs1 ha1 o1 g1 Dd1 => ?_)
  · intro u hu; rcases List.mem_cons.mp hu with rfl | hu; exact ok_ref (by omega); (try simp only [List.mem_cons, List.not_mem_nil, or_false] at hu); (first | (rcases hu with rfl | rfl | rfl | rfl | rfl <;> exact ok_int _ _) | (rcases hu with rfl | rfl | rfl | rfl <;> exact ok_int _ _) | (rcases hu with rfl | rfl | rfl <;> exact ok_int _ _) | (rcases hu with rfl | rfl <;> exact ok_int _ _) | (subst hu; exact ok_int _ _) | (cases hu))
  · have g1 : h1.length - h.length ≤ 48 := by omega
    show cells + _ ≤ 600128 ∧ 1000 * cells + 1000 * _ ≤ 7301098; omega
  have hl1 := LSt.next hl (ha1 0 (by omega)) (ha1 34 (by omega)) (ha1 46 (by omega))
  refine lv_aload_n C.1 C.2.1 dL_law_542 rfl (lv_at hl1 2 rfl) ?_
  refine lw_sc (k := 1) (pc' := 549) X Dd1.2.2.2.1 (lv_at hl1 0 rfl) (lv_at hl1 4 rfl) (by omega) hz1 dL_law_543 dL_law_544 dL_law_546 dL_law_547 dL_law_548 rfl ?_
  refine lw_sc (k := 2) (pc' := 555) X Dd1.2.2.2.1 (lv_at hl1 0 rfl) (lv_at hl1 4 rfl) (by omega) hz2 dL_law_549 dL_law_550 dL_law_552 dL_law_553 dL_law_554 rfl ?_
  refine lw_sc (k := 3) (pc' := 561) X Dd1.2.2.2.1 (lv_at hl1 0 rfl) (lv_at hl1 4 rfl) (by omega) hz3 dL_law_555 dL_law_556 dL_law_558 dL_law_559 dL_law_560 rfl ?_
  refine lw_ne (pc' := 569) X r3 dL_law_561 dL_law_564 dL_law_565 dL_law_568 rfl ?_
  rw [hz3b]
  refine lw_sc (k := 4) (pc' := 575) X Dd1.2.2.2.1 (lv_at hl1 0 rfl) (lv_at hl1 4 rfl) (by omega) hz4 dL_law_569 dL_law_570 dL_law_572 dL_law_573 dL_law_574 rfl ?_
  refine lw_sc (k := 5) (pc' := 581) X Dd1.2.2.2.1 (lv_at hl1 0 rfl) (lv_at hl1 4 rfl) (by omega) hz5 dL_law_575 dL_law_576 dL_law_578 dL_law_579 dL_law_580 rfl ?_
  refine wc_V (ci := 6) (a := 34) (pc' := 584) [.int (iI z1), .int (iI z2), .int (iI z3b), .int (iI z4), .int (iI z5)] C Dd1 hl.1 o1 ?_ kL_60 mX6_leg dL_law_581 rfl rfl rfl rfl (Nat.le_of_ble_eq_true rfl) (Nat.le_of_ble_eq_true rfl) (by decide) ?_ rfl ho1 E2 (fun ad2 H2 locs2 ha2 o2 g2 Dd2 => ?_)
  · intro u hu; rcases List.mem_cons.mp hu with rfl | hu; exact ok_ref (by omega); (try simp only [List.mem_cons, List.not_mem_nil, or_false] at hu); (first | (rcases hu with rfl | rfl | rfl | rfl | rfl <;> exact ok_int _ _) | (rcases hu with rfl | rfl | rfl | rfl <;> exact ok_int _ _) | (rcases hu with rfl | rfl | rfl <;> exact ok_int _ _) | (rcases hu with rfl | rfl <;> exact ok_int _ _) | (subst hu; exact ok_int _ _) | (cases hu))
  · have g3 : h1.length - h.length ≤ 48 := by omega
    show cells + _ + _ ≤ 600128 ∧ 1000 * (cells + _) + 1000 * _ ≤ 7301098; omega
  have hl2 := LSt.next hl1 (ha2 0 (by omega)) (ha2 34 (by omega)) (ha2 46 (by omega))
  refine lv_icmp_eq (tgt := 1923) C.1 C.2.1 dL_law_584 (by decide) (fun _ => ?_) (fun q => absurd rfl q)
  exact kk _ _ _ _ _ ⟨ad2, Dd2, hl2, o2, x2⟩ (by omega)
theorem law_c9 (X : LX p s m meth c b L xs) (hi : i + 6 ≤ L) (hc : cells ≤ 5000) (S : LSt D aC s b i H locs ls h) (kk : ∀ (H1 : Heap) (locs1 : List Loc) (ls1 : Array Slot) (h1 : ev_H) (cells1 : Nat), LSt D aC s b i H1 locs1 ls1 h1 → cells1 ≤ cells + 50 → W p l e room_1 s m #[Value.ref b] below meth c H1 locs1 cells1 (1000 * cells1) (lw_Z below #[Value.ref b] s) (F0 m 1923 ls1 [])) : W p l e room_1 s m #[Value.ref b] below meth c H locs cells (1000 * cells) (lw_Z below #[Value.ref b] s) (F0 m 589 ls []) := by
  obtain ⟨ad, Dd, hl, o, x⟩ := S
  obtain ⟨C, hX, hbl, hL⟩ := id X
  obtain ⟨z1, hz1, r1⟩ : ∃ z : Int, xs (i + 1) = iI z ∧ (-2147483648 ≤ z ∧ z < 2147483648) := ⟨(xs (i + 1)).toInt, (iI_of _).symm, iI_rng _⟩
  obtain ⟨z2, hz2, r2⟩ : ∃ z : Int, xs (i + 2) = iI z ∧ (-2147483648 ≤ z ∧ z < 2147483648) := ⟨(xs (i + 2)).toInt, (iI_of _).symm, iI_rng _⟩
  obtain ⟨z3, hz3, r3⟩ : ∃ z : Int, xs (i + 3) = iI z ∧ (-2147483648 ≤ z ∧ z < 2147483648) := ⟨(xs (i + 3)).toInt, (iI_of _).symm, iI_rng _⟩
  obtain ⟨r, h1, h2, E1, E2, x2, L1, L2, fs1, ho1⟩ := s_captain (l := l) (h := h) x r1 r2 r3
  have l47 := x.len
  obtain ⟨fs0, ho0⟩ := x.o0
  refine lv_aload_n C.1 C.2.1 dL_law_589 rfl (lv_at hl 1 rfl) ?_
  refine lw_sc (k := 1) (pc' := 596) X Dd.2.2.2.1 (lv_at hl 0 rfl) (lv_at hl 4 rfl) (by omega) hz1 dL_law_590 dL_law_591 dL_law_593 dL_law_594 dL_law_595 rfl ?_
  refine lw_sc (k := 2) (pc' := 602) X Dd.2.2.2.1 (lv_at hl 0 rfl) (lv_at hl 4 rfl) (by omega) hz2 dL_law_596 dL_law_597 dL_law_599 dL_law_600 dL_law_601 rfl ?_
  refine lw_sc (k := 3) (pc' := 608) X Dd.2.2.2.1 (lv_at hl 0 rfl) (lv_at hl 4 rfl) (by omega) hz3 dL_law_602 dL_law_603 dL_law_605 dL_law_606 dL_law_607 rfl ?_
  refine wc_V (ci := 5) (a := 0) (pc' := 611) [.int (iI z1), .int (iI z2), .int (iI z3)] C Dd hl.1 o ?_ kL_61 mX5_captain dL_law_608 rfl rfl rfl rfl (Nat.le_of_ble_eq_true rfl) (Nat.le_of_ble_eq_true rfl) (by decide) ?_ rfl ho0 E1 (fun ad1 H1 locs1 ha1 o1 g1 Dd1 => ?_)
  · intro u hu; rcases List.mem_cons.mp hu with rfl | hu; exact ok_ref (by omega); (try simp only [List.mem_cons, List.not_mem_nil, or_false] at hu); (first | (rcases hu with rfl | rfl | rfl | rfl | rfl <;> exact ok_int _ _) | (rcases hu with rfl | rfl | rfl | rfl <;> exact ok_int _ _) | (rcases hu with rfl | rfl | rfl <;> exact ok_int _ _) | (rcases hu with rfl | rfl <;> exact ok_int _ _) | (subst hu; exact ok_int _ _) | (cases hu))
  · have g1 : h1.length - h.length ≤ 48 := by omega
    show cells + _ ≤ 600128 ∧ 1000 * cells + 1000 * _ ≤ 7301098; omega
  have hl1 := LSt.next hl (ha1 0 (by omega)) (ha1 34 (by omega)) (ha1 46 (by omega))
  refine lv_aload_n C.1 C.2.1 dL_law_611 rfl (lv_at hl1 2 rfl) ?_
  refine lw_sc (k := 1) (pc' := 618) X Dd1.2.2.2.1 (lv_at hl1 0 rfl) (lv_at hl1 4 rfl) (by omega) hz1 dL_law_612 dL_law_613 dL_law_615 dL_law_616 dL_law_617 rfl ?_
  refine lw_sc (k := 2) (pc' := 624) X Dd1.2.2.2.1 (lv_at hl1 0 rfl) (lv_at hl1 4 rfl) (by omega) hz2 dL_law_618 dL_law_619 dL_law_621 dL_law_622 dL_law_623 rfl ?_
  refine lw_sc (k := 3) (pc' := 630) X Dd1.2.2.2.1 (lv_at hl1 0 rfl) (lv_at hl1 4 rfl) (by omega) hz3 dL_law_624 dL_law_625 dL_law_627 dL_law_628 dL_law_629 rfl ?_
  refine wc_V (ci := 6) (a := 34) (pc' := 633) [.int (iI z1), .int (iI z2), .int (iI z3)] C Dd1 hl.1 o1 ?_ kL_64 mX6_captain dL_law_630 rfl rfl rfl rfl (Nat.le_of_ble_eq_true rfl) (Nat.le_of_ble_eq_true rfl) (by decide) ?_ rfl ho1 E2 (fun ad2 H2 locs2 ha2 o2 g2 Dd2 => ?_)
  · intro u hu; rcases List.mem_cons.mp hu with rfl | hu; exact ok_ref (by omega); (try simp only [List.mem_cons, List.not_mem_nil, or_false] at hu); (first | (rcases hu with rfl | rfl | rfl | rfl | rfl <;> exact ok_int _ _) | (rcases hu with rfl | rfl | rfl | rfl <;> exact ok_int _ _) | (rcases hu with rfl | rfl | rfl <;> exact ok_int _ _) | (rcases hu with rfl | rfl <;> exact ok_int _ _) | (subst hu; exact ok_int _ _) | (cases hu))
  · have g3 : h1.length - h.length ≤ 48 := by omega
    show cells + _ + _ ≤ 600128 ∧ 1000 * (cells + _) + 1000 * _ ≤ 7301098; omega
  have hl2 := LSt.next hl1 (ha2 0 (by omega)) (ha2 34 (by omega)) (ha2 46 (by omega))
  refine lv_icmp_eq (tgt := 1923) C.1 C.2.1 dL_law_633 (by decide) (fun _ => ?_) (fun q => absurd rfl q)
  exact kk _ _ _ _ _ ⟨ad2, Dd2, hl2, o2, x2⟩ (by omega)
theorem law_c10 (X : LX p s m meth c b L xs) (hi : i + 6 ≤ L) (hc : cells ≤ 5000) (S : LSt D aC s b i H locs ls h) (kk : ∀ (H1 : Heap) (locs1 : List Loc) (ls1 : Array Slot) (h1 : ev_H) (cells1 : Nat), LSt D aC s b i H1 locs1 ls1 h1 → cells1 ≤ cells + 50 → W p l e room_1 s m #[Value.ref b] below meth c H1 locs1 cells1 (1000 * cells1) (lw_Z below #[Value.ref b] s) (F0 m 1923 ls1 [])) : W p l e room_1 s m #[Value.ref b] below meth c H locs cells (1000 * cells) (lw_Z below #[Value.ref b] s) (F0 m 638 ls []) := by
  obtain ⟨ad, Dd, hl, o, x⟩ := S
  obtain ⟨C, hX, hbl, hL⟩ := id X
  obtain ⟨z1, hz1, r1⟩ : ∃ z : Int, xs (i + 1) = iI z ∧ (-2147483648 ≤ z ∧ z < 2147483648) := ⟨(xs (i + 1)).toInt, (iI_of _).symm, iI_rng _⟩
  obtain ⟨z2, hz2, r2⟩ : ∃ z : Int, xs (i + 2) = iI z ∧ (-2147483648 ≤ z ∧ z < 2147483648) := ⟨(xs (i + 2)).toInt, (iI_of _).symm, iI_rng _⟩
  obtain ⟨z3, hz3, r3⟩ : ∃ z : Int, xs (i + 3) = iI z ∧ (-2147483648 ≤ z ∧ z < 2147483648) := ⟨(xs (i + 3)).toInt, (iI_of _).symm, iI_rng _⟩
  obtain ⟨r, h1, h2, E1, E2, x2, L1, L2, fs1, ho1⟩ := s_where (l := l) (h := h) x r1 r2 r3
  have l47 := x.len
  obtain ⟨fs0, ho0⟩ := x.o0
  refine lv_aload_n C.1 C.2.1 dL_law_638 rfl (lv_at hl 1 rfl) ?_
  refine lw_sc (k := 1) (pc' := 645) X Dd.2.2.2.1 (lv_at hl 0 rfl) (lv_at hl 4 rfl) (by omega) hz1 dL_law_639 dL_law_640 dL_law_642 dL_law_643 dL_law_644 rfl ?_
  refine lw_sc (k := 2) (pc' := 651) X Dd.2.2.2.1 (lv_at hl 0 rfl) (lv_at hl 4 rfl) (by omega) hz2 dL_law_645 dL_law_646 dL_law_648 dL_law_649 dL_law_650 rfl ?_
  refine lw_sc (k := 3) (pc' := 657) X Dd.2.2.2.1 (lv_at hl 0 rfl) (lv_at hl 4 rfl) (by omega) hz3 dL_law_651 dL_law_652 dL_law_654 dL_law_655 dL_law_656 rfl ?_
  refine wc_V (ci := 5) (a := 0) (pc' := 660) [.int (iI z1), .int (iI z2), .int (iI z3)] C Dd hl.1 o ?_ kL_65 mX5_where dL_law_657 rfl rfl rfl rfl (Nat.le_of_ble_eq_true rfl) (Nat.le_of_ble_eq_true rfl) (by decide) ?_ rfl ho0 E1 (fun ad1 H1 locs1 ha1 o1 g1 Dd1 => ?_)
  · intro u hu; rcases List.mem_cons.mp hu with rfl | hu; exact ok_ref (by omega); (try simp only [List.mem_cons, List.not_mem_nil, or_false] at hu); (first | (rcases hu with rfl | rfl | rfl | rfl | rfl <;> exact ok_int _ _) | (rcases hu with rfl | rfl | rfl | rfl <;> exact ok_int _ _) | (rcases hu with rfl | rfl | rfl <;> exact ok_int _ _) | (rcases hu with rfl | rfl <;> exact ok_int _ _) | (subst hu; exact ok_int _ _) | (cases hu))
  · have g1 : h1.length - h.length ≤ 48 := by omega
    show cells + _ ≤ 600128 ∧ 1000 * cells + 1000 * _ ≤ 7301098; omega
  have hl1 := LSt.next hl (ha1 0 (by omega)) (ha1 34 (by omega)) (ha1 46 (by omega))
  refine lv_aload_n C.1 C.2.1 dL_law_660 rfl (lv_at hl1 2 rfl) ?_
  refine lw_sc (k := 1) (pc' := 667) X Dd1.2.2.2.1 (lv_at hl1 0 rfl) (lv_at hl1 4 rfl) (by omega) hz1 dL_law_661 dL_law_662 dL_law_664 dL_law_665 dL_law_666 rfl ?_
  refine lw_sc (k := 2) (pc' := 673) X Dd1.2.2.2.1 (lv_at hl1 0 rfl) (lv_at hl1 4 rfl) (by omega) hz2 dL_law_667 dL_law_668 dL_law_670 dL_law_671 dL_law_672 rfl ?_
  refine lw_sc (k := 3) (pc' := 679) X Dd1.2.2.2.1 (lv_at hl1 0 rfl) (lv_at hl1 4 rfl) (by omega) hz3 dL_law_673 dL_law_674 dL_law_676 dL_law_677 dL_law_678 rfl ?_
  refine wc_V (ci := 6) (a := 34) (pc' := 682) [.int (iI z1), .int (iI z2), .int (iI z3)] C Dd1 hl.1 o1 ?_ kL_69 mX6_where dL_law_679 rfl rfl rfl rfl (Nat.le_of_ble_eq_true rfl) (Nat.le_of_ble_eq_true rfl) (by decide) ?_ rfl ho1 E2 (fun ad2 H2 locs2 ha2 o2 g2 Dd2 => ?_)
  · intro u hu; rcases List.mem_cons.mp hu with rfl | hu; exact ok_ref (by omega); (try simp only [List.mem_cons, List.not_mem_nil, or_false] at hu); (first | (rcases hu with rfl | rfl | rfl | rfl | rfl <;> exact ok_int _ _) | (rcases hu with rfl | rfl | rfl | rfl <;> exact ok_int _ _) | (rcases hu with rfl | rfl | rfl <;> exact ok_int _ _) | (rcases hu with rfl | rfl <;> exact ok_int _ _) | (subst hu; exact ok_int _ _) | (cases hu))
  · have g3 : h1.length - h.length ≤ 48 := by omega
    show cells + _ + _ ≤ 600128 ∧ 1000 * (cells + _) + 1000 * _ ≤ 7301098; omega
  have hl2 := LSt.next hl1 (ha2 0 (by omega)) (ha2 34 (by omega)) (ha2 46 (by omega))
  refine W.lcmp C.1 C.2.1 dL_law_682 ?_
  refine lv_if_eq (tgt := 1923) C.1 C.2.1 dL_law_683 (by decide) (fun _ => ?_) (fun q => absurd (lg_cmp_self r) q)
  exact kk _ _ _ _ _ ⟨ad2, Dd2, hl2, o2, x2⟩ (by omega)
theorem law_c11 (X : LX p s m meth c b L xs) (hi : i + 6 ≤ L) (hc : cells ≤ 5000) (S : LSt D aC s b i H locs ls h) (kk : ∀ (H1 : Heap) (locs1 : List Loc) (ls1 : Array Slot) (h1 : ev_H) (cells1 : Nat), LSt D aC s b i H1 locs1 ls1 h1 → cells1 ≤ cells + 50 → W p l e room_1 s m #[Value.ref b] below meth c H1 locs1 cells1 (1000 * cells1) (lw_Z below #[Value.ref b] s) (F0 m 1923 ls1 [])) : W p l e room_1 s m #[Value.ref b] below meth c H locs cells (1000 * cells) (lw_Z below #[Value.ref b] s) (F0 m 688 ls []) := by
  obtain ⟨ad, Dd, hl, o, x⟩ := S
  obtain ⟨C, hX, hbl, hL⟩ := id X
  obtain ⟨z1, hz1, r1⟩ : ∃ z : Int, xs (i + 1) = iI z ∧ (-2147483648 ≤ z ∧ z < 2147483648) := ⟨(xs (i + 1)).toInt, (iI_of _).symm, iI_rng _⟩
  obtain ⟨z2, hz2, r2⟩ : ∃ z : Int, xs (i + 2) = iI z ∧ (-2147483648 ≤ z ∧ z < 2147483648) := ⟨(xs (i + 2)).toInt, (iI_of _).symm, iI_rng _⟩
  obtain ⟨r, h1, h2, E1, E2, x2, L1, L2, fs1, ho1⟩ := s_in (l := l) (h := h) x r1 r2
  have l47 := x.len
  obtain ⟨fs0, ho0⟩ := x.o0
  refine lv_aload_n C.1 C.2.1 dL_law_688 rfl (lv_at hl 1 rfl) ?_
  refine lw_sc (k := 1) (pc' := 695) X Dd.2.2.2.1 (lv_at hl 0 rfl) (lv_at hl 4 rfl) (by omega) hz1 dL_law_689 dL_law_690 dL_law_692 dL_law_693 dL_law_694 rfl ?_
  refine lw_sc (k := 2) (pc' := 701) X Dd.2.2.2.1 (lv_at hl 0 rfl) (lv_at hl 4 rfl) (by omega) hz2 dL_law_695 dL_law_696 dL_law_698 dL_law_699 dL_law_700 rfl ?_
  refine wc_V (ci := 5) (a := 0) (pc' := 704) [.int (iI z1), .int (iI z2)] C Dd hl.1 o ?_ kL_70 mX5_in dL_law_701 rfl rfl rfl rfl (Nat.le_of_ble_eq_true rfl) (Nat.le_of_ble_eq_true rfl) (by decide) ?_ rfl ho0 E1 (fun ad1 H1 locs1 ha1 o1 g1 Dd1 => ?_)
  · intro u hu; rcases List.mem_cons.mp hu with rfl | hu; exact ok_ref (by omega); (try simp only [List.mem_cons, List.not_mem_nil, or_false] at hu); (first | (rcases hu with rfl | rfl | rfl | rfl | rfl <;> exact ok_int _ _) | (rcases hu with rfl | rfl | rfl | rfl <;> exact ok_int _ _) | (rcases hu with rfl | rfl | rfl <;> exact ok_int _ _) | (rcases hu with rfl | rfl <;> exact ok_int _ _) | (subst hu; exact ok_int _ _) | (cases hu))
  · have g1 : h1.length - h.length ≤ 48 := by omega
    show cells + _ ≤ 600128 ∧ 1000 * cells + 1000 * _ ≤ 7301098; omega
  have hl1 := LSt.next hl (ha1 0 (by omega)) (ha1 34 (by omega)) (ha1 46 (by omega))
  refine lv_aload_n C.1 C.2.1 dL_law_704 rfl (lv_at hl1 2 rfl) ?_
  refine lw_sc (k := 1) (pc' := 711) X Dd1.2.2.2.1 (lv_at hl1 0 rfl) (lv_at hl1 4 rfl) (by omega) hz1 dL_law_705 dL_law_706 dL_law_708 dL_law_709 dL_law_710 rfl ?_
  refine lw_sc (k := 2) (pc' := 717) X Dd1.2.2.2.1 (lv_at hl1 0 rfl) (lv_at hl1 4 rfl) (by omega) hz2 dL_law_711 dL_law_712 dL_law_714 dL_law_715 dL_law_716 rfl ?_
  refine wc_V (ci := 6) (a := 34) (pc' := 720) [.int (iI z1), .int (iI z2)] C Dd1 hl.1 o1 ?_ kL_73 mX6_in dL_law_717 rfl rfl rfl rfl (Nat.le_of_ble_eq_true rfl) (Nat.le_of_ble_eq_true rfl) (by decide) ?_ rfl ho1 E2 (fun ad2 H2 locs2 ha2 o2 g2 Dd2 => ?_)
  · intro u hu; rcases List.mem_cons.mp hu with rfl | hu; exact ok_ref (by omega); (try simp only [List.mem_cons, List.not_mem_nil, or_false] at hu); (first | (rcases hu with rfl | rfl | rfl | rfl | rfl <;> exact ok_int _ _) | (rcases hu with rfl | rfl | rfl | rfl <;> exact ok_int _ _) | (rcases hu with rfl | rfl | rfl <;> exact ok_int _ _) | (rcases hu with rfl | rfl <;> exact ok_int _ _) | (subst hu; exact ok_int _ _) | (cases hu))
  · have g3 : h1.length - h.length ≤ 48 := by omega
    show cells + _ + _ ≤ 600128 ∧ 1000 * (cells + _) + 1000 * _ ≤ 7301098; omega
  have hl2 := LSt.next hl1 (ha2 0 (by omega)) (ha2 34 (by omega)) (ha2 46 (by omega))
  refine lv_icmp_eq (tgt := 1923) C.1 C.2.1 dL_law_720 (by decide) (fun _ => ?_) (fun q => absurd rfl q)
  exact kk _ _ _ _ _ ⟨ad2, Dd2, hl2, o2, x2⟩ (by omega)
theorem law_c12 (X : LX p s m meth c b L xs) (hi : i + 6 ≤ L) (hc : cells ≤ 5000) (S : LSt D aC s b i H locs ls h) (kk : ∀ (H1 : Heap) (locs1 : List Loc) (ls1 : Array Slot) (h1 : ev_H) (cells1 : Nat), LSt D aC s b i H1 locs1 ls1 h1 → cells1 ≤ cells + 50 → W p l e room_1 s m #[Value.ref b] below meth c H1 locs1 cells1 (1000 * cells1) (lw_Z below #[Value.ref b] s) (F0 m 1923 ls1 [])) : W p l e room_1 s m #[Value.ref b] below meth c H locs cells (1000 * cells) (lw_Z below #[Value.ref b] s) (F0 m 725 ls []) := by
  obtain ⟨ad, Dd, hl, o, x⟩ := S
  obtain ⟨C, hX, hbl, hL⟩ := id X
  obtain ⟨z1, hz1, r1⟩ : ∃ z : Int, xs (i + 1) = iI z ∧ (-2147483648 ≤ z ∧ z < 2147483648) := ⟨(xs (i + 1)).toInt, (iI_of _).symm, iI_rng _⟩
  obtain ⟨z2, hz2, r2⟩ : ∃ z : Int, xs (i + 2) = iI z ∧ (-2147483648 ≤ z ∧ z < 2147483648) := ⟨(xs (i + 2)).toInt, (iI_of _).symm, iI_rng _⟩
  obtain ⟨r, h1, h2, E1, E2, x2, L1, L2, fs1, ho1⟩ := s_day (l := l) (h := h) x r1 r2
  have l47 := x.len
  obtain ⟨fs0, ho0⟩ := x.o0
  refine lv_aload_n C.1 C.2.1 dL_law_725 rfl (lv_at hl 1 rfl) ?_
  refine lw_sc (k := 1) (pc' := 732) X Dd.2.2.2.1 (lv_at hl 0 rfl) (lv_at hl 4 rfl) (by omega) hz1 dL_law_726 dL_law_727 dL_law_729 dL_law_730 dL_law_731 rfl ?_
  refine lw_sc (k := 2) (pc' := 738) X Dd.2.2.2.1 (lv_at hl 0 rfl) (lv_at hl 4 rfl) (by omega) hz2 dL_law_732 dL_law_733 dL_law_735 dL_law_736 dL_law_737 rfl ?_
  refine wc_V (ci := 5) (a := 0) (pc' := 741) [.int (iI z1), .int (iI z2)] C Dd hl.1 o ?_ kL_74 mX5_day dL_law_738 rfl rfl rfl rfl (Nat.le_of_ble_eq_true rfl) (Nat.le_of_ble_eq_true rfl) (by decide) ?_ rfl ho0 E1 (fun ad1 H1 locs1 ha1 o1 g1 Dd1 => ?_)
  · intro u hu; rcases List.mem_cons.mp hu with rfl | hu; exact ok_ref (by omega); (try simp only [List.mem_cons, List.not_mem_nil, or_false] at hu); (first | (rcases hu with rfl | rfl | rfl | rfl | rfl <;> exact ok_int _ _) | (rcases hu with rfl | rfl | rfl | rfl <;> exact ok_int _ _) | (rcases hu with rfl | rfl | rfl <;> exact ok_int _ _) | (rcases hu with rfl | rfl <;> exact ok_int _ _) | (subst hu; exact ok_int _ _) | (cases hu))
  · have g1 : h1.length - h.length ≤ 48 := by omega
    show cells + _ ≤ 600128 ∧ 1000 * cells + 1000 * _ ≤ 7301098; omega
  have hl1 := LSt.next hl (ha1 0 (by omega)) (ha1 34 (by omega)) (ha1 46 (by omega))
  refine lv_aload_n C.1 C.2.1 dL_law_741 rfl (lv_at hl1 2 rfl) ?_
  refine lw_sc (k := 1) (pc' := 748) X Dd1.2.2.2.1 (lv_at hl1 0 rfl) (lv_at hl1 4 rfl) (by omega) hz1 dL_law_742 dL_law_743 dL_law_745 dL_law_746 dL_law_747 rfl ?_
  refine lw_sc (k := 2) (pc' := 754) X Dd1.2.2.2.1 (lv_at hl1 0 rfl) (lv_at hl1 4 rfl) (by omega) hz2 dL_law_748 dL_law_749 dL_law_751 dL_law_752 dL_law_753 rfl ?_
  refine wc_V (ci := 6) (a := 34) (pc' := 757) [.int (iI z1), .int (iI z2)] C Dd1 hl.1 o1 ?_ kL_77 mX6_day dL_law_754 rfl rfl rfl rfl (Nat.le_of_ble_eq_true rfl) (Nat.le_of_ble_eq_true rfl) (by decide) ?_ rfl ho1 E2 (fun ad2 H2 locs2 ha2 o2 g2 Dd2 => ?_)
  · intro u hu; rcases List.mem_cons.mp hu with rfl | hu; exact ok_ref (by omega); (try simp only [List.mem_cons, List.not_mem_nil, or_false] at hu); (first | (rcases hu with rfl | rfl | rfl | rfl | rfl <;> exact ok_int _ _) | (rcases hu with rfl | rfl | rfl | rfl <;> exact ok_int _ _) | (rcases hu with rfl | rfl | rfl <;> exact ok_int _ _) | (rcases hu with rfl | rfl <;> exact ok_int _ _) | (subst hu; exact ok_int _ _) | (cases hu))
  · have g3 : h1.length - h.length ≤ 48 := by omega
    show cells + _ + _ ≤ 600128 ∧ 1000 * (cells + _) + 1000 * _ ≤ 7301098; omega
  have hl2 := LSt.next hl1 (ha2 0 (by omega)) (ha2 34 (by omega)) (ha2 46 (by omega))
  refine lv_icmp_eq (tgt := 1923) C.1 C.2.1 dL_law_757 (by decide) (fun _ => ?_) (fun q => absurd rfl q)
  exact kk _ _ _ _ _ ⟨ad2, Dd2, hl2, o2, x2⟩ (by omega)
theorem law_c13 (X : LX p s m meth c b L xs) (hi : i + 6 ≤ L) (hc : cells ≤ 5000) (S : LSt D aC s b i H locs ls h) (kk : ∀ (H1 : Heap) (locs1 : List Loc) (ls1 : Array Slot) (h1 : ev_H) (cells1 : Nat), LSt D aC s b i H1 locs1 ls1 h1 → cells1 ≤ cells + 50 → W p l e room_1 s m #[Value.ref b] below meth c H1 locs1 cells1 (1000 * cells1) (lw_Z below #[Value.ref b] s) (F0 m 1923 ls1 [])) : W p l e room_1 s m #[Value.ref b] below meth c H locs cells (1000 * cells) (lw_Z below #[Value.ref b] s) (F0 m 762 ls []) := by
  obtain ⟨ad, Dd, hl, o, x⟩ := S
  obtain ⟨C, hX, hbl, hL⟩ := id X
  obtain ⟨z1, hz1, r1⟩ : ∃ z : Int, xs (i + 1) = iI z ∧ (-2147483648 ≤ z ∧ z < 2147483648) := ⟨(xs (i + 1)).toInt, (iI_of _).symm, iI_rng _⟩
  obtain ⟨z2, hz2, r2⟩ : ∃ z : Int, xs (i + 2) = iI z ∧ (-2147483648 ≤ z ∧ z < 2147483648) := ⟨(xs (i + 2)).toInt, (iI_of _).symm, iI_rng _⟩
  obtain ⟨z3, hz3, r3⟩ : ∃ z : Int, xs (i + 3) = iI z ∧ (-2147483648 ≤ z ∧ z < 2147483648) := ⟨(xs (i + 3)).toInt, (iI_of _).symm, iI_rng _⟩
  obtain ⟨r, h1, h2, E1, E2, x2, L1, L2, fs1, ho1⟩ := s_dayBy (l := l) (h := h) x r1 r2 r3
  have l47 := x.len
  obtain ⟨fs0, ho0⟩ := x.o0
  refine lv_aload_n C.1 C.2.1 dL_law_762 rfl (lv_at hl 1 rfl) ?_
  refine lw_sc (k := 1) (pc' := 769) X Dd.2.2.2.1 (lv_at hl 0 rfl) (lv_at hl 4 rfl) (by omega) hz1 dL_law_763 dL_law_764 dL_law_766 dL_law_767 dL_law_768 rfl ?_
  refine lw_sc (k := 2) (pc' := 775) X Dd.2.2.2.1 (lv_at hl 0 rfl) (lv_at hl 4 rfl) (by omega) hz2 dL_law_769 dL_law_770 dL_law_772 dL_law_773 dL_law_774 rfl ?_
  refine lw_sc (k := 3) (pc' := 781) X Dd.2.2.2.1 (lv_at hl 0 rfl) (lv_at hl 4 rfl) (by omega) hz3 dL_law_775 dL_law_776 dL_law_778 dL_law_779 dL_law_780 rfl ?_
  refine wc_V (ci := 5) (a := 0) (pc' := 784) [.int (iI z1), .int (iI z2), .int (iI z3)] C Dd hl.1 o ?_ kL_78 mX5_dayBy dL_law_781 rfl rfl rfl rfl (Nat.le_of_ble_eq_true rfl) (Nat.le_of_ble_eq_true rfl) (by decide) ?_ rfl ho0 E1 (fun ad1 H1 locs1 ha1 o1 g1 Dd1 => ?_)
  · intro u hu; rcases List.mem_cons.mp hu with rfl | hu; exact ok_ref (by omega); (try simp only [List.mem_cons, List.not_mem_nil, or_false] at hu); (first | (rcases hu with rfl | rfl | rfl | rfl | rfl <;> exact ok_int _ _) | (rcases hu with rfl | rfl | rfl | rfl <;> exact ok_int _ _) | (rcases hu with rfl | rfl | rfl <;> exact ok_int _ _) | (rcases hu with rfl | rfl <;> exact ok_int _ _) | (subst hu; exact ok_int _ _) | (cases hu))
  · have g1 : h1.length - h.length ≤ 48 := by omega
    show cells + _ ≤ 600128 ∧ 1000 * cells + 1000 * _ ≤ 7301098; omega
  have hl1 := LSt.next hl (ha1 0 (by omega)) (ha1 34 (by omega)) (ha1 46 (by omega))
  refine lv_aload_n C.1 C.2.1 dL_law_784 rfl (lv_at hl1 2 rfl) ?_
  refine lw_sc (k := 1) (pc' := 791) X Dd1.2.2.2.1 (lv_at hl1 0 rfl) (lv_at hl1 4 rfl) (by omega) hz1 dL_law_785 dL_law_786 dL_law_788 dL_law_789 dL_law_790 rfl ?_
  refine lw_sc (k := 2) (pc' := 797) X Dd1.2.2.2.1 (lv_at hl1 0 rfl) (lv_at hl1 4 rfl) (by omega) hz2 dL_law_791 dL_law_792 dL_law_794 dL_law_795 dL_law_796 rfl ?_
  refine lw_sc (k := 3) (pc' := 803) X Dd1.2.2.2.1 (lv_at hl1 0 rfl) (lv_at hl1 4 rfl) (by omega) hz3 dL_law_797 dL_law_798 dL_law_800 dL_law_801 dL_law_802 rfl ?_
  refine wc_V (ci := 6) (a := 34) (pc' := 806) [.int (iI z1), .int (iI z2), .int (iI z3)] C Dd1 hl.1 o1 ?_ kL_81 mX6_dayBy dL_law_803 rfl rfl rfl rfl (Nat.le_of_ble_eq_true rfl) (Nat.le_of_ble_eq_true rfl) (by decide) ?_ rfl ho1 E2 (fun ad2 H2 locs2 ha2 o2 g2 Dd2 => ?_)
  · intro u hu; rcases List.mem_cons.mp hu with rfl | hu; exact ok_ref (by omega); (try simp only [List.mem_cons, List.not_mem_nil, or_false] at hu); (first | (rcases hu with rfl | rfl | rfl | rfl | rfl <;> exact ok_int _ _) | (rcases hu with rfl | rfl | rfl | rfl <;> exact ok_int _ _) | (rcases hu with rfl | rfl | rfl <;> exact ok_int _ _) | (rcases hu with rfl | rfl <;> exact ok_int _ _) | (subst hu; exact ok_int _ _) | (cases hu))
  · have g3 : h1.length - h.length ≤ 48 := by omega
    show cells + _ + _ ≤ 600128 ∧ 1000 * (cells + _) + 1000 * _ ≤ 7301098; omega
  have hl2 := LSt.next hl1 (ha2 0 (by omega)) (ha2 34 (by omega)) (ha2 46 (by omega))
  refine lv_icmp_eq (tgt := 1923) C.1 C.2.1 dL_law_806 (by decide) (fun _ => ?_) (fun q => absurd rfl q)
  exact kk _ _ _ _ _ ⟨ad2, Dd2, hl2, o2, x2⟩ (by omega)
theorem law_c14 (X : LX p s m meth c b L xs) (hi : i + 6 ≤ L) (hc : cells ≤ 5000) (S : LSt D aC s b i H locs ls h) (kk : ∀ (H1 : Heap) (locs1 : List Loc) (ls1 : Array Slot) (h1 : ev_H) (cells1 : Nat), LSt D aC s b i H1 locs1 ls1 h1 → cells1 ≤ cells + 50 → W p l e room_1 s m #[Value.ref b] below meth c H1 locs1 cells1 (1000 * cells1) (lw_Z below #[Value.ref b] s) (F0 m 1923 ls1 [])) : W p l e room_1 s m #[Value.ref b] below meth c H locs cells (1000 * cells) (lw_Z below #[Value.ref b] s) (F0 m 811 ls []) := by
  obtain ⟨ad, Dd, hl, o, x⟩ := S
  obtain ⟨C, hX, hbl, hL⟩ := id X
  obtain ⟨z1, hz1, r1⟩ : ∃ z : Int, xs (i + 1) = iI z ∧ (-2147483648 ≤ z ∧ z < 2147483648) := ⟨(xs (i + 1)).toInt, (iI_of _).symm, iI_rng _⟩
  obtain ⟨z2, hz2, r2⟩ : ∃ z : Int, xs (i + 2) = iI z ∧ (-2147483648 ≤ z ∧ z < 2147483648) := ⟨(xs (i + 2)).toInt, (iI_of _).symm, iI_rng _⟩
  obtain ⟨z3, hz3, r3⟩ : ∃ z : Int, xs (i + 3) = iI z ∧ (-2147483648 ≤ z ∧ z < 2147483648) := ⟨(xs (i + 3)).toInt, (iI_of _).symm, iI_rng _⟩
  obtain ⟨r, h1, h2, E1, E2, x2, L1, L2, fs1, ho1⟩ := s_gain (l := l) (h := h) x r1 r2 r3
  have l47 := x.len
  obtain ⟨fs0, ho0⟩ := x.o0
  refine lv_aload_n C.1 C.2.1 dL_law_811 rfl (lv_at hl 1 rfl) ?_
  refine lw_sc (k := 1) (pc' := 818) X Dd.2.2.2.1 (lv_at hl 0 rfl) (lv_at hl 4 rfl) (by omega) hz1 dL_law_812 dL_law_813 dL_law_815 dL_law_816 dL_law_817 rfl ?_
  refine lw_sc (k := 2) (pc' := 824) X Dd.2.2.2.1 (lv_at hl 0 rfl) (lv_at hl 4 rfl) (by omega) hz2 dL_law_818 dL_law_819 dL_law_821 dL_law_822 dL_law_823 rfl ?_
  refine lw_sc (k := 3) (pc' := 830) X Dd.2.2.2.1 (lv_at hl 0 rfl) (lv_at hl 4 rfl) (by omega) hz3 dL_law_824 dL_law_825 dL_law_827 dL_law_828 dL_law_829 rfl ?_
  refine wc_V (ci := 5) (a := 0) (pc' := 833) [.int (iI z1), .int (iI z2), .int (iI z3)] C Dd hl.1 o ?_ kL_82 mX5_gain dL_law_830 rfl rfl rfl rfl (Nat.le_of_ble_eq_true rfl) (Nat.le_of_ble_eq_true rfl) (by decide) ?_ rfl ho0 E1 (fun ad1 H1 locs1 ha1 o1 g1 Dd1 => ?_)
  · intro u hu; rcases List.mem_cons.mp hu with rfl | hu; exact ok_ref (by omega); (try simp only [List.mem_cons, List.not_mem_nil, or_false] at hu); (first | (rcases hu with rfl | rfl | rfl | rfl | rfl <;> exact ok_int _ _) | (rcases hu with rfl | rfl | rfl | rfl <;> exact ok_int _ _) | (rcases hu with rfl | rfl | rfl <;> exact ok_int _ _) | (rcases hu with rfl | rfl <;> exact ok_int _ _) | (subst hu; exact ok_int _ _) | (cases hu))
  · have g1 : h1.length - h.length ≤ 48 := by omega
    show cells + _ ≤ 600128 ∧ 1000 * cells + 1000 * _ ≤ 7301098; omega
  have hl1 := LSt.next hl (ha1 0 (by omega)) (ha1 34 (by omega)) (ha1 46 (by omega))
  refine lv_aload_n C.1 C.2.1 dL_law_833 rfl (lv_at hl1 2 rfl) ?_
  refine lw_sc (k := 1) (pc' := 840) X Dd1.2.2.2.1 (lv_at hl1 0 rfl) (lv_at hl1 4 rfl) (by omega) hz1 dL_law_834 dL_law_835 dL_law_837 dL_law_838 dL_law_839 rfl ?_
  refine lw_sc (k := 2) (pc' := 846) X Dd1.2.2.2.1 (lv_at hl1 0 rfl) (lv_at hl1 4 rfl) (by omega) hz2 dL_law_840 dL_law_841 dL_law_843 dL_law_844 dL_law_845 rfl ?_
  refine lw_sc (k := 3) (pc' := 852) X Dd1.2.2.2.1 (lv_at hl1 0 rfl) (lv_at hl1 4 rfl) (by omega) hz3 dL_law_846 dL_law_847 dL_law_849 dL_law_850 dL_law_851 rfl ?_
  refine wc_V (ci := 6) (a := 34) (pc' := 855) [.int (iI z1), .int (iI z2), .int (iI z3)] C Dd1 hl.1 o1 ?_ kL_85 mX6_gain dL_law_852 rfl rfl rfl rfl (Nat.le_of_ble_eq_true rfl) (Nat.le_of_ble_eq_true rfl) (by decide) ?_ rfl ho1 E2 (fun ad2 H2 locs2 ha2 o2 g2 Dd2 => ?_)
  · intro u hu; rcases List.mem_cons.mp hu with rfl | hu; exact ok_ref (by omega); (try simp only [List.mem_cons, List.not_mem_nil, or_false] at hu); (first | (rcases hu with rfl | rfl | rfl | rfl | rfl <;> exact ok_int _ _) | (rcases hu with rfl | rfl | rfl | rfl <;> exact ok_int _ _) | (rcases hu with rfl | rfl | rfl <;> exact ok_int _ _) | (rcases hu with rfl | rfl <;> exact ok_int _ _) | (subst hu; exact ok_int _ _) | (cases hu))
  · have g3 : h1.length - h.length ≤ 48 := by omega
    show cells + _ + _ ≤ 600128 ∧ 1000 * (cells + _) + 1000 * _ ≤ 7301098; omega
  have hl2 := LSt.next hl1 (ha2 0 (by omega)) (ha2 34 (by omega)) (ha2 46 (by omega))
  refine lv_icmp_eq (tgt := 1923) C.1 C.2.1 dL_law_855 (by decide) (fun _ => ?_) (fun q => absurd rfl q)
  exact kk _ _ _ _ _ ⟨ad2, Dd2, hl2, o2, x2⟩ (by omega)
theorem law_c15 (X : LX p s m meth c b L xs) (hi : i + 6 ≤ L) (hc : cells ≤ 5000) (S : LSt D aC s b i H locs ls h) (kk : ∀ (H1 : Heap) (locs1 : List Loc) (ls1 : Array Slot) (h1 : ev_H) (cells1 : Nat), LSt D aC s b i H1 locs1 ls1 h1 → cells1 ≤ cells + 50 → W p l e room_1 s m #[Value.ref b] below meth c H1 locs1 cells1 (1000 * cells1) (lw_Z below #[Value.ref b] s) (F0 m 1923 ls1 [])) : W p l e room_1 s m #[Value.ref b] below meth c H locs cells (1000 * cells) (lw_Z below #[Value.ref b] s) (F0 m 860 ls []) := by
  obtain ⟨ad, Dd, hl, o, x⟩ := S
  obtain ⟨C, hX, hbl, hL⟩ := id X
  obtain ⟨z1, hz1, r1⟩ : ∃ z : Int, xs (i + 1) = iI z ∧ (-2147483648 ≤ z ∧ z < 2147483648) := ⟨(xs (i + 1)).toInt, (iI_of _).symm, iI_rng _⟩
  obtain ⟨z2, hz2, r2⟩ : ∃ z : Int, xs (i + 2) = iI z ∧ (-2147483648 ≤ z ∧ z < 2147483648) := ⟨(xs (i + 2)).toInt, (iI_of _).symm, iI_rng _⟩
  obtain ⟨r, h1, h2, E1, E2, x2, L1, L2, fs1, ho1⟩ := s_begins (l := l) (h := h) x r1 r2
  have l47 := x.len
  obtain ⟨fs0, ho0⟩ := x.o0
  refine lv_aload_n C.1 C.2.1 dL_law_860 rfl (lv_at hl 1 rfl) ?_
  refine lw_sc (k := 1) (pc' := 867) X Dd.2.2.2.1 (lv_at hl 0 rfl) (lv_at hl 4 rfl) (by omega) hz1 dL_law_861 dL_law_862 dL_law_864 dL_law_865 dL_law_866 rfl ?_
  refine lw_sc (k := 2) (pc' := 873) X Dd.2.2.2.1 (lv_at hl 0 rfl) (lv_at hl 4 rfl) (by omega) hz2 dL_law_867 dL_law_868 dL_law_870 dL_law_871 dL_law_872 rfl ?_
  refine wc_V (ci := 5) (a := 0) (pc' := 876) [.int (iI z1), .int (iI z2)] C Dd hl.1 o ?_ kL_86 mX5_begins dL_law_873 rfl rfl rfl rfl (Nat.le_of_ble_eq_true rfl) (Nat.le_of_ble_eq_true rfl) (by decide) ?_ rfl ho0 E1 (fun ad1 H1 locs1 ha1 o1 g1 Dd1 => ?_)
  · intro u hu; rcases List.mem_cons.mp hu with rfl | hu; exact ok_ref (by omega); (try simp only [List.mem_cons, List.not_mem_nil, or_false] at hu); (first | (rcases hu with rfl | rfl | rfl | rfl | rfl <;> exact ok_int _ _) | (rcases hu with rfl | rfl | rfl | rfl <;> exact ok_int _ _) | (rcases hu with rfl | rfl | rfl <;> exact ok_int _ _) | (rcases hu with rfl | rfl <;> exact ok_int _ _) | (subst hu; exact ok_int _ _) | (cases hu))
  · have g1 : h1.length - h.length ≤ 48 := by omega
    show cells + _ ≤ 600128 ∧ 1000 * cells + 1000 * _ ≤ 7301098; omega
  have hl1 := LSt.next hl (ha1 0 (by omega)) (ha1 34 (by omega)) (ha1 46 (by omega))
  refine lv_aload_n C.1 C.2.1 dL_law_876 rfl (lv_at hl1 2 rfl) ?_
  refine lw_sc (k := 1) (pc' := 883) X Dd1.2.2.2.1 (lv_at hl1 0 rfl) (lv_at hl1 4 rfl) (by omega) hz1 dL_law_877 dL_law_878 dL_law_880 dL_law_881 dL_law_882 rfl ?_
  refine lw_sc (k := 2) (pc' := 889) X Dd1.2.2.2.1 (lv_at hl1 0 rfl) (lv_at hl1 4 rfl) (by omega) hz2 dL_law_883 dL_law_884 dL_law_886 dL_law_887 dL_law_888 rfl ?_
  refine wc_V (ci := 6) (a := 34) (pc' := 892) [.int (iI z1), .int (iI z2)] C Dd1 hl.1 o1 ?_ kL_89 mX6_begins dL_law_889 rfl rfl rfl rfl (Nat.le_of_ble_eq_true rfl) (Nat.le_of_ble_eq_true rfl) (by decide) ?_ rfl ho1 E2 (fun ad2 H2 locs2 ha2 o2 g2 Dd2 => ?_)
  · intro u hu; rcases List.mem_cons.mp hu with rfl | hu; exact ok_ref (by omega); (try simp only [List.mem_cons, List.not_mem_nil, or_false] at hu); (first | (rcases hu with rfl | rfl | rfl | rfl | rfl <;> exact ok_int _ _) | (rcases hu with rfl | rfl | rfl | rfl <;> exact ok_int _ _) | (rcases hu with rfl | rfl | rfl <;> exact ok_int _ _) | (rcases hu with rfl | rfl <;> exact ok_int _ _) | (subst hu; exact ok_int _ _) | (cases hu))
  · have g3 : h1.length - h.length ≤ 48 := by omega
    show cells + _ + _ ≤ 600128 ∧ 1000 * (cells + _) + 1000 * _ ≤ 7301098; omega
  have hl2 := LSt.next hl1 (ha2 0 (by omega)) (ha2 34 (by omega)) (ha2 46 (by omega))
  refine lv_icmp_eq (tgt := 1923) C.1 C.2.1 dL_law_892 (by decide) (fun _ => ?_) (fun q => absurd rfl q)
  exact kk _ _ _ _ _ ⟨ad2, Dd2, hl2, o2, x2⟩ (by omega)
theorem law_c16 (X : LX p s m meth c b L xs) (hi : i + 6 ≤ L) (hc : cells ≤ 5000) (S : LSt D aC s b i H locs ls h) (kk : ∀ (H1 : Heap) (locs1 : List Loc) (ls1 : Array Slot) (h1 : ev_H) (cells1 : Nat), LSt D aC s b i H1 locs1 ls1 h1 → cells1 ≤ cells + 50 → W p l e room_1 s m #[Value.ref b] below meth c H1 locs1 cells1 (1000 * cells1) (lw_Z below #[Value.ref b] s) (F0 m 1923 ls1 [])) : W p l e room_1 s m #[Value.ref b] below meth c H locs cells (1000 * cells) (lw_Z below #[Value.ref b] s) (F0 m 897 ls []) := by
  obtain ⟨ad, Dd, hl, o, x⟩ := S
  obtain ⟨C, hX, hbl, hL⟩ := id X
  obtain ⟨z1, hz1, r1⟩ : ∃ z : Int, xs (i + 1) = iI z ∧ (-2147483648 ≤ z ∧ z < 2147483648) := ⟨(xs (i + 1)).toInt, (iI_of _).symm, iI_rng _⟩
  obtain ⟨z2, hz2, r2⟩ : ∃ z : Int, xs (i + 2) = iI z ∧ (-2147483648 ≤ z ∧ z < 2147483648) := ⟨(xs (i + 2)).toInt, (iI_of _).symm, iI_rng _⟩
  obtain ⟨r, h1, h2, E1, E2, x2, L1, L2, fs1, ho1⟩ := s_longDay (l := l) (h := h) x r1 r2
  have l47 := x.len
  obtain ⟨fs0, ho0⟩ := x.o0
  refine lv_aload_n C.1 C.2.1 dL_law_897 rfl (lv_at hl 1 rfl) ?_
  refine lw_sc (k := 1) (pc' := 904) X Dd.2.2.2.1 (lv_at hl 0 rfl) (lv_at hl 4 rfl) (by omega) hz1 dL_law_898 dL_law_899 dL_law_901 dL_law_902 dL_law_903 rfl ?_
  refine lw_sc (k := 2) (pc' := 910) X Dd.2.2.2.1 (lv_at hl 0 rfl) (lv_at hl 4 rfl) (by omega) hz2 dL_law_904 dL_law_905 dL_law_907 dL_law_908 dL_law_909 rfl ?_
  refine wc_V (ci := 5) (a := 0) (pc' := 913) [.int (iI z1), .int (iI z2)] C Dd hl.1 o ?_ kL_90 mX5_longDay dL_law_910 rfl rfl rfl rfl (Nat.le_of_ble_eq_true rfl) (Nat.le_of_ble_eq_true rfl) (by decide) ?_ rfl ho0 E1 (fun ad1 H1 locs1 ha1 o1 g1 Dd1 => ?_)
  · intro u hu; rcases List.mem_cons.mp hu with rfl | hu; exact ok_ref (by omega); (try simp only [List.mem_cons, List.not_mem_nil, or_false] at hu); (first | (rcases hu with rfl | rfl | rfl | rfl | rfl <;> exact ok_int _ _) | (rcases hu with rfl | rfl | rfl | rfl <;> exact ok_int _ _) | (rcases hu with rfl | rfl | rfl <;> exact ok_int _ _) | (rcases hu with rfl | rfl <;> exact ok_int _ _) | (subst hu; exact ok_int _ _) | (cases hu))
  · have g1 : h1.length - h.length ≤ 48 := by omega
    show cells + _ ≤ 600128 ∧ 1000 * cells + 1000 * _ ≤ 7301098; omega
  have hl1 := LSt.next hl (ha1 0 (by omega)) (ha1 34 (by omega)) (ha1 46 (by omega))
  refine lv_aload_n C.1 C.2.1 dL_law_913 rfl (lv_at hl1 2 rfl) ?_
  refine lw_sc (k := 1) (pc' := 920) X Dd1.2.2.2.1 (lv_at hl1 0 rfl) (lv_at hl1 4 rfl) (by omega) hz1 dL_law_914 dL_law_915 dL_law_917 dL_law_918 dL_law_919 rfl ?_
  refine lw_sc (k := 2) (pc' := 926) X Dd1.2.2.2.1 (lv_at hl1 0 rfl) (lv_at hl1 4 rfl) (by omega) hz2 dL_law_920 dL_law_921 dL_law_923 dL_law_924 dL_law_925 rfl ?_
  refine wc_V (ci := 6) (a := 34) (pc' := 929) [.int (iI z1), .int (iI z2)] C Dd1 hl.1 o1 ?_ kL_93 mX6_longDay dL_law_926 rfl rfl rfl rfl (Nat.le_of_ble_eq_true rfl) (Nat.le_of_ble_eq_true rfl) (by decide) ?_ rfl ho1 E2 (fun ad2 H2 locs2 ha2 o2 g2 Dd2 => ?_)
  · intro u hu; rcases List.mem_cons.mp hu with rfl | hu; exact ok_ref (by omega); (try simp only [List.mem_cons, List.not_mem_nil, or_false] at hu); (first | (rcases hu with rfl | rfl | rfl | rfl | rfl <;> exact ok_int _ _) | (rcases hu with rfl | rfl | rfl | rfl <;> exact ok_int _ _) | (rcases hu with rfl | rfl | rfl <;> exact ok_int _ _) | (rcases hu with rfl | rfl <;> exact ok_int _ _) | (subst hu; exact ok_int _ _) | (cases hu))
  · have g3 : h1.length - h.length ≤ 48 := by omega
    show cells + _ + _ ≤ 600128 ∧ 1000 * (cells + _) + 1000 * _ ≤ 7301098; omega
  have hl2 := LSt.next hl1 (ha2 0 (by omega)) (ha2 34 (by omega)) (ha2 46 (by omega))
  refine lv_icmp_eq (tgt := 1923) C.1 C.2.1 dL_law_929 (by decide) (fun _ => ?_) (fun q => absurd rfl q)
  exact kk _ _ _ _ _ ⟨ad2, Dd2, hl2, o2, x2⟩ (by omega)
theorem law_c17 (X : LX p s m meth c b L xs) (hi : i + 6 ≤ L) (hc : cells ≤ 5000) (S : LSt D aC s b i H locs ls h) (kk : ∀ (H1 : Heap) (locs1 : List Loc) (ls1 : Array Slot) (h1 : ev_H) (cells1 : Nat), LSt D aC s b i H1 locs1 ls1 h1 → cells1 ≤ cells + 50 → W p l e room_1 s m #[Value.ref b] below meth c H1 locs1 cells1 (1000 * cells1) (lw_Z below #[Value.ref b] s) (F0 m 1923 ls1 [])) : W p l e room_1 s m #[Value.ref b] below meth c H locs cells (1000 * cells) (lw_Z below #[Value.ref b] s) (F0 m 934 ls []) := by
  obtain ⟨ad, Dd, hl, o, x⟩ := S
  obtain ⟨C, hX, hbl, hL⟩ := id X
  obtain ⟨z1, hz1, r1⟩ : ∃ z : Int, xs (i + 1) = iI z ∧ (-2147483648 ≤ z ∧ z < 2147483648) := ⟨(xs (i + 1)).toInt, (iI_of _).symm, iI_rng _⟩
  obtain ⟨z2, hz2, r2⟩ : ∃ z : Int, xs (i + 2) = iI z ∧ (-2147483648 ≤ z ∧ z < 2147483648) := ⟨(xs (i + 2)).toInt, (iI_of _).symm, iI_rng _⟩
  obtain ⟨z3, hz3, r3⟩ : ∃ z : Int, xs (i + 3) = iI z ∧ (-2147483648 ≤ z ∧ z < 2147483648) := ⟨(xs (i + 3)).toInt, (iI_of _).symm, iI_rng _⟩
  obtain ⟨r, h1, h2, E1, E2, x2, L1, L2, fs1, ho1⟩ := s_often (l := l) (h := h) x r1 r2 r3
  have l47 := x.len
  obtain ⟨fs0, ho0⟩ := x.o0
  refine lv_aload_n C.1 C.2.1 dL_law_934 rfl (lv_at hl 1 rfl) ?_
  refine lw_sc (k := 1) (pc' := 941) X Dd.2.2.2.1 (lv_at hl 0 rfl) (lv_at hl 4 rfl) (by omega) hz1 dL_law_935 dL_law_936 dL_law_938 dL_law_939 dL_law_940 rfl ?_
  refine lw_sc (k := 2) (pc' := 947) X Dd.2.2.2.1 (lv_at hl 0 rfl) (lv_at hl 4 rfl) (by omega) hz2 dL_law_941 dL_law_942 dL_law_944 dL_law_945 dL_law_946 rfl ?_
  refine lw_sc (k := 3) (pc' := 953) X Dd.2.2.2.1 (lv_at hl 0 rfl) (lv_at hl 4 rfl) (by omega) hz3 dL_law_947 dL_law_948 dL_law_950 dL_law_951 dL_law_952 rfl ?_
  refine wc_V (ci := 5) (a := 0) (pc' := 956) [.int (iI z1), .int (iI z2), .int (iI z3)] C Dd hl.1 o ?_ kL_94 mX5_often dL_law_953 rfl rfl rfl rfl (Nat.le_of_ble_eq_true rfl) (Nat.le_of_ble_eq_true rfl) (by decide) ?_ rfl ho0 E1 (fun ad1 H1 locs1 ha1 o1 g1 Dd1 => ?_)
  · intro u hu; rcases List.mem_cons.mp hu with rfl | hu; exact ok_ref (by omega); (try simp only [List.mem_cons, List.not_mem_nil, or_false] at hu); (first | (rcases hu with rfl | rfl | rfl | rfl | rfl <;> exact ok_int _ _) | (rcases hu with rfl | rfl | rfl | rfl <;> exact ok_int _ _) | (rcases hu with rfl | rfl | rfl <;> exact ok_int _ _) | (rcases hu with rfl | rfl <;> exact ok_int _ _) | (subst hu; exact ok_int _ _) | (cases hu))
  · have g1 : h1.length - h.length ≤ 48 := by omega
    show cells + _ ≤ 600128 ∧ 1000 * cells + 1000 * _ ≤ 7301098; omega
  have hl1 := LSt.next hl (ha1 0 (by omega)) (ha1 34 (by omega)) (ha1 46 (by omega))
  refine lv_aload_n C.1 C.2.1 dL_law_956 rfl (lv_at hl1 2 rfl) ?_
  refine lw_sc (k := 1) (pc' := 963) X Dd1.2.2.2.1 (lv_at hl1 0 rfl) (lv_at hl1 4 rfl) (by omega) hz1 dL_law_957 dL_law_958 dL_law_960 dL_law_961 dL_law_962 rfl ?_
  refine lw_sc (k := 2) (pc' := 969) X Dd1.2.2.2.1 (lv_at hl1 0 rfl) (lv_at hl1 4 rfl) (by omega) hz2 dL_law_963 dL_law_964 dL_law_966 dL_law_967 dL_law_968 rfl ?_
  refine lw_sc (k := 3) (pc' := 975) X Dd1.2.2.2.1 (lv_at hl1 0 rfl) (lv_at hl1 4 rfl) (by omega) hz3 dL_law_969 dL_law_970 dL_law_972 dL_law_973 dL_law_974 rfl ?_
  refine wc_V (ci := 6) (a := 34) (pc' := 978) [.int (iI z1), .int (iI z2), .int (iI z3)] C Dd1 hl.1 o1 ?_ kL_97 mX6_often dL_law_975 rfl rfl rfl rfl (Nat.le_of_ble_eq_true rfl) (Nat.le_of_ble_eq_true rfl) (by decide) ?_ rfl ho1 E2 (fun ad2 H2 locs2 ha2 o2 g2 Dd2 => ?_)
  · intro u hu; rcases List.mem_cons.mp hu with rfl | hu; exact ok_ref (by omega); (try simp only [List.mem_cons, List.not_mem_nil, or_false] at hu); (first | (rcases hu with rfl | rfl | rfl | rfl | rfl <;> exact ok_int _ _) | (rcases hu with rfl | rfl | rfl | rfl <;> exact ok_int _ _) | (rcases hu with rfl | rfl | rfl <;> exact ok_int _ _) | (rcases hu with rfl | rfl <;> exact ok_int _ _) | (subst hu; exact ok_int _ _) | (cases hu))
  · have g3 : h1.length - h.length ≤ 48 := by omega
    show cells + _ + _ ≤ 600128 ∧ 1000 * (cells + _) + 1000 * _ ≤ 7301098; omega
  have hl2 := LSt.next hl1 (ha2 0 (by omega)) (ha2 34 (by omega)) (ha2 46 (by omega))
  refine lv_icmp_eq (tgt := 1923) C.1 C.2.1 dL_law_978 (by decide) (fun _ => ?_) (fun q => absurd rfl q)
  exact kk _ _ _ _ _ ⟨ad2, Dd2, hl2, o2, x2⟩ (by omega)
theorem law_c18 (X : LX p s m meth c b L xs) (hi : i + 6 ≤ L) (hc : cells ≤ 5000) (S : LSt D aC s b i H locs ls h) (kk : ∀ (H1 : Heap) (locs1 : List Loc) (ls1 : Array Slot) (h1 : ev_H) (cells1 : Nat), LSt D aC s b i H1 locs1 ls1 h1 → cells1 ≤ cells + 50 → W p l e room_1 s m #[Value.ref b] below meth c H1 locs1 cells1 (1000 * cells1) (lw_Z below #[Value.ref b] s) (F0 m 1923 ls1 [])) : W p l e room_1 s m #[Value.ref b] below meth c H locs cells (1000 * cells) (lw_Z below #[Value.ref b] s) (F0 m 983 ls []) := by
  obtain ⟨ad, Dd, hl, o, x⟩ := S
  obtain ⟨C, hX, hbl, hL⟩ := id X
  obtain ⟨z1, hz1, r1⟩ : ∃ z : Int, xs (i + 1) = iI z ∧ (-2147483648 ≤ z ∧ z < 2147483648) := ⟨(xs (i + 1)).toInt, (iI_of _).symm, iI_rng _⟩
  obtain ⟨z2, hz2, r2⟩ : ∃ z : Int, xs (i + 2) = iI z ∧ (-2147483648 ≤ z ∧ z < 2147483648) := ⟨(xs (i + 2)).toInt, (iI_of _).symm, iI_rng _⟩
  obtain ⟨z3, hz3, r3⟩ : ∃ z : Int, xs (i + 3) = iI z ∧ (-2147483648 ≤ z ∧ z < 2147483648) := ⟨(xs (i + 3)).toInt, (iI_of _).symm, iI_rng _⟩
  obtain ⟨r, h1, h2, E1, E2, x2, L1, L2, fs1, ho1⟩ := s_duty (l := l) (h := h) x r1 r2 r3
  have l47 := x.len
  obtain ⟨fs0, ho0⟩ := x.o0
  refine lv_aload_n C.1 C.2.1 dL_law_983 rfl (lv_at hl 1 rfl) ?_
  refine lw_sc (k := 1) (pc' := 990) X Dd.2.2.2.1 (lv_at hl 0 rfl) (lv_at hl 4 rfl) (by omega) hz1 dL_law_984 dL_law_985 dL_law_987 dL_law_988 dL_law_989 rfl ?_
  refine lw_sc (k := 2) (pc' := 996) X Dd.2.2.2.1 (lv_at hl 0 rfl) (lv_at hl 4 rfl) (by omega) hz2 dL_law_990 dL_law_991 dL_law_993 dL_law_994 dL_law_995 rfl ?_
  refine lw_sc (k := 3) (pc' := 1002) X Dd.2.2.2.1 (lv_at hl 0 rfl) (lv_at hl 4 rfl) (by omega) hz3 dL_law_996 dL_law_997 dL_law_999 dL_law_1000 dL_law_1001 rfl ?_
  refine wc_V (ci := 5) (a := 0) (pc' := 1005) [.int (iI z1), .int (iI z2), .int (iI z3)] C Dd hl.1 o ?_ kL_98 mX5_duty dL_law_1002 rfl rfl rfl rfl (Nat.le_of_ble_eq_true rfl) (Nat.le_of_ble_eq_true rfl) (by decide) ?_ rfl ho0 E1 (fun ad1 H1 locs1 ha1 o1 g1 Dd1 => ?_)
  · intro u hu; rcases List.mem_cons.mp hu with rfl | hu; exact ok_ref (by omega); (try simp only [List.mem_cons, List.not_mem_nil, or_false] at hu); (first | (rcases hu with rfl | rfl | rfl | rfl | rfl <;> exact ok_int _ _) | (rcases hu with rfl | rfl | rfl | rfl <;> exact ok_int _ _) | (rcases hu with rfl | rfl | rfl <;> exact ok_int _ _) | (rcases hu with rfl | rfl <;> exact ok_int _ _) | (subst hu; exact ok_int _ _) | (cases hu))
  · have g1 : h1.length - h.length ≤ 48 := by omega
    show cells + _ ≤ 600128 ∧ 1000 * cells + 1000 * _ ≤ 7301098; omega
  have hl1 := LSt.next hl (ha1 0 (by omega)) (ha1 34 (by omega)) (ha1 46 (by omega))
  refine lv_aload_n C.1 C.2.1 dL_law_1005 rfl (lv_at hl1 2 rfl) ?_
  refine lw_sc (k := 1) (pc' := 1012) X Dd1.2.2.2.1 (lv_at hl1 0 rfl) (lv_at hl1 4 rfl) (by omega) hz1 dL_law_1006 dL_law_1007 dL_law_1009 dL_law_1010 dL_law_1011 rfl ?_
  refine lw_sc (k := 2) (pc' := 1018) X Dd1.2.2.2.1 (lv_at hl1 0 rfl) (lv_at hl1 4 rfl) (by omega) hz2 dL_law_1012 dL_law_1013 dL_law_1015 dL_law_1016 dL_law_1017 rfl ?_
  refine lw_sc (k := 3) (pc' := 1024) X Dd1.2.2.2.1 (lv_at hl1 0 rfl) (lv_at hl1 4 rfl) (by omega) hz3 dL_law_1018 dL_law_1019 dL_law_1021 dL_law_1022 dL_law_1023 rfl ?_
  refine wc_V (ci := 6) (a := 34) (pc' := 1027) [.int (iI z1), .int (iI z2), .int (iI z3)] C Dd1 hl.1 o1 ?_ kL_101 mX6_duty dL_law_1024 rfl rfl rfl rfl (Nat.le_of_ble_eq_true rfl) (Nat.le_of_ble_eq_true rfl) (by decide) ?_ rfl ho1 E2 (fun ad2 H2 locs2 ha2 o2 g2 Dd2 => ?_)
  · intro u hu; rcases List.mem_cons.mp hu with rfl | hu; exact ok_ref (by omega); (try simp only [List.mem_cons, List.not_mem_nil, or_false] at hu); (first | (rcases hu with rfl | rfl | rfl | rfl | rfl <;> exact ok_int _ _) | (rcases hu with rfl | rfl | rfl | rfl <;> exact ok_int _ _) | (rcases hu with rfl | rfl | rfl <;> exact ok_int _ _) | (rcases hu with rfl | rfl <;> exact ok_int _ _) | (subst hu; exact ok_int _ _) | (cases hu))
  · have g3 : h1.length - h.length ≤ 48 := by omega
    show cells + _ + _ ≤ 600128 ∧ 1000 * (cells + _) + 1000 * _ ≤ 7301098; omega
  have hl2 := LSt.next hl1 (ha2 0 (by omega)) (ha2 34 (by omega)) (ha2 46 (by omega))
  refine lv_icmp_eq (tgt := 1923) C.1 C.2.1 dL_law_1027 (by decide) (fun _ => ?_) (fun q => absurd rfl q)
  exact kk _ _ _ _ _ ⟨ad2, Dd2, hl2, o2, x2⟩ (by omega)
theorem law_c19 (X : LX p s m meth c b L xs) (hi : i + 6 ≤ L) (hc : cells ≤ 5000) (S : LSt D aC s b i H locs ls h) (kk : ∀ (H1 : Heap) (locs1 : List Loc) (ls1 : Array Slot) (h1 : ev_H) (cells1 : Nat), LSt D aC s b i H1 locs1 ls1 h1 → cells1 ≤ cells + 50 → W p l e room_1 s m #[Value.ref b] below meth c H1 locs1 cells1 (1000 * cells1) (lw_Z below #[Value.ref b] s) (F0 m 1923 ls1 [])) : W p l e room_1 s m #[Value.ref b] below meth c H locs cells (1000 * cells) (lw_Z below #[Value.ref b] s) (F0 m 1032 ls []) := by
  obtain ⟨ad, Dd, hl, o, x⟩ := S
  obtain ⟨C, hX, hbl, hL⟩ := id X
  obtain ⟨z1, hz1, r1⟩ : ∃ z : Int, xs (i + 1) = iI z ∧ (-2147483648 ≤ z ∧ z < 2147483648) := ⟨(xs (i + 1)).toInt, (iI_of _).symm, iI_rng _⟩
  obtain ⟨z2, hz2, r2⟩ : ∃ z : Int, xs (i + 2) = iI z ∧ (-2147483648 ≤ z ∧ z < 2147483648) := ⟨(xs (i + 2)).toInt, (iI_of _).symm, iI_rng _⟩
  obtain ⟨z3, hz3, r3⟩ : ∃ z : Int, xs (i + 3) = iI z ∧ (-2147483648 ≤ z ∧ z < 2147483648) := ⟨(xs (i + 3)).toInt, (iI_of _).symm, iI_rng _⟩
  obtain ⟨r, h1, h2, E1, E2, x2, L1, L2, fs1, ho1⟩ := s_differ (l := l) (h := h) x r1 r2 r3
  have l47 := x.len
  obtain ⟨fs0, ho0⟩ := x.o0
  refine lv_aload_n C.1 C.2.1 dL_law_1032 rfl (lv_at hl 1 rfl) ?_
  refine lw_sc (k := 1) (pc' := 1039) X Dd.2.2.2.1 (lv_at hl 0 rfl) (lv_at hl 4 rfl) (by omega) hz1 dL_law_1033 dL_law_1034 dL_law_1036 dL_law_1037 dL_law_1038 rfl ?_
  refine lw_sc (k := 2) (pc' := 1045) X Dd.2.2.2.1 (lv_at hl 0 rfl) (lv_at hl 4 rfl) (by omega) hz2 dL_law_1039 dL_law_1040 dL_law_1042 dL_law_1043 dL_law_1044 rfl ?_
  refine lw_sc (k := 3) (pc' := 1051) X Dd.2.2.2.1 (lv_at hl 0 rfl) (lv_at hl 4 rfl) (by omega) hz3 dL_law_1045 dL_law_1046 dL_law_1048 dL_law_1049 dL_law_1050 rfl ?_
  refine wc_V (ci := 5) (a := 0) (pc' := 1054) [.int (iI z1), .int (iI z2), .int (iI z3)] C Dd hl.1 o ?_ kL_102 mX5_differ dL_law_1051 rfl rfl rfl rfl (Nat.le_of_ble_eq_true rfl) (Nat.le_of_ble_eq_true rfl) (by decide) ?_ rfl ho0 E1 (fun ad1 H1 locs1 ha1 o1 g1 Dd1 => ?_)
  · intro u hu; rcases List.mem_cons.mp hu with rfl | hu; exact ok_ref (by omega); (try simp only [List.mem_cons, List.not_mem_nil, or_false] at hu); (first | (rcases hu with rfl | rfl | rfl | rfl | rfl <;> exact ok_int _ _) | (rcases hu with rfl | rfl | rfl | rfl <;> exact ok_int _ _) | (rcases hu with rfl | rfl | rfl <;> exact ok_int _ _) | (rcases hu with rfl | rfl <;> exact ok_int _ _) | (subst hu; exact ok_int _ _) | (cases hu))
  · have g1 : h1.length - h.length ≤ 48 := by omega
    show cells + _ ≤ 600128 ∧ 1000 * cells + 1000 * _ ≤ 7301098; omega
  have hl1 := LSt.next hl (ha1 0 (by omega)) (ha1 34 (by omega)) (ha1 46 (by omega))
  refine lv_aload_n C.1 C.2.1 dL_law_1054 rfl (lv_at hl1 2 rfl) ?_
  refine lw_sc (k := 1) (pc' := 1061) X Dd1.2.2.2.1 (lv_at hl1 0 rfl) (lv_at hl1 4 rfl) (by omega) hz1 dL_law_1055 dL_law_1056 dL_law_1058 dL_law_1059 dL_law_1060 rfl ?_
  refine lw_sc (k := 2) (pc' := 1067) X Dd1.2.2.2.1 (lv_at hl1 0 rfl) (lv_at hl1 4 rfl) (by omega) hz2 dL_law_1061 dL_law_1062 dL_law_1064 dL_law_1065 dL_law_1066 rfl ?_
  refine lw_sc (k := 3) (pc' := 1073) X Dd1.2.2.2.1 (lv_at hl1 0 rfl) (lv_at hl1 4 rfl) (by omega) hz3 dL_law_1067 dL_law_1068 dL_law_1070 dL_law_1071 dL_law_1072 rfl ?_
  refine wc_V (ci := 6) (a := 34) (pc' := 1076) [.int (iI z1), .int (iI z2), .int (iI z3)] C Dd1 hl.1 o1 ?_ kL_105 mX6_differ dL_law_1073 rfl rfl rfl rfl (Nat.le_of_ble_eq_true rfl) (Nat.le_of_ble_eq_true rfl) (by decide) ?_ rfl ho1 E2 (fun ad2 H2 locs2 ha2 o2 g2 Dd2 => ?_)
  · intro u hu; rcases List.mem_cons.mp hu with rfl | hu; exact ok_ref (by omega); (try simp only [List.mem_cons, List.not_mem_nil, or_false] at hu); (first | (rcases hu with rfl | rfl | rfl | rfl | rfl <;> exact ok_int _ _) | (rcases hu with rfl | rfl | rfl | rfl <;> exact ok_int _ _) | (rcases hu with rfl | rfl | rfl <;> exact ok_int _ _) | (rcases hu with rfl | rfl <;> exact ok_int _ _) | (subst hu; exact ok_int _ _) | (cases hu))
  · have g3 : h1.length - h.length ≤ 48 := by omega
    show cells + _ + _ ≤ 600128 ∧ 1000 * (cells + _) + 1000 * _ ≤ 7301098; omega
  have hl2 := LSt.next hl1 (ha2 0 (by omega)) (ha2 34 (by omega)) (ha2 46 (by omega))
  refine lv_icmp_eq (tgt := 1923) C.1 C.2.1 dL_law_1076 (by decide) (fun _ => ?_) (fun q => absurd rfl q)
  exact kk _ _ _ _ _ ⟨ad2, Dd2, hl2, o2, x2⟩ (by omega)
theorem law_c20 (X : LX p s m meth c b L xs) (hi : i + 6 ≤ L) (hc : cells ≤ 5000) (S : LSt D aC s b i H locs ls h) (kk : ∀ (H1 : Heap) (locs1 : List Loc) (ls1 : Array Slot) (h1 : ev_H) (cells1 : Nat), LSt D aC s b i H1 locs1 ls1 h1 → cells1 ≤ cells + 50 → W p l e room_1 s m #[Value.ref b] below meth c H1 locs1 cells1 (1000 * cells1) (lw_Z below #[Value.ref b] s) (F0 m 1923 ls1 [])) : W p l e room_1 s m #[Value.ref b] below meth c H locs cells (1000 * cells) (lw_Z below #[Value.ref b] s) (F0 m 1081 ls []) := by
  obtain ⟨ad, Dd, hl, o, x⟩ := S
  obtain ⟨C, hX, hbl, hL⟩ := id X
  obtain ⟨z1, hz1, r1⟩ : ∃ z : Int, xs (i + 1) = iI z ∧ (-2147483648 ≤ z ∧ z < 2147483648) := ⟨(xs (i + 1)).toInt, (iI_of _).symm, iI_rng _⟩
  obtain ⟨z2, hz2, r2⟩ : ∃ z : Int, xs (i + 2) = iI z ∧ (-2147483648 ≤ z ∧ z < 2147483648) := ⟨(xs (i + 2)).toInt, (iI_of _).symm, iI_rng _⟩
  obtain ⟨z3, hz3, r3⟩ : ∃ z : Int, xs (i + 3) = iI z ∧ (-2147483648 ≤ z ∧ z < 2147483648) := ⟨(xs (i + 3)).toInt, (iI_of _).symm, iI_rng _⟩
  obtain ⟨r, h1, h2, E1, E2, x2, L1, L2, fs1, ho1⟩ := s_agree (l := l) (h := h) x r1 r2 r3
  have l47 := x.len
  obtain ⟨fs0, ho0⟩ := x.o0
  refine lv_aload_n C.1 C.2.1 dL_law_1081 rfl (lv_at hl 1 rfl) ?_
  refine lw_sc (k := 1) (pc' := 1088) X Dd.2.2.2.1 (lv_at hl 0 rfl) (lv_at hl 4 rfl) (by omega) hz1 dL_law_1082 dL_law_1083 dL_law_1085 dL_law_1086 dL_law_1087 rfl ?_
  refine lw_sc (k := 2) (pc' := 1094) X Dd.2.2.2.1 (lv_at hl 0 rfl) (lv_at hl 4 rfl) (by omega) hz2 dL_law_1088 dL_law_1089 dL_law_1091 dL_law_1092 dL_law_1093 rfl ?_
  refine lw_sc (k := 3) (pc' := 1100) X Dd.2.2.2.1 (lv_at hl 0 rfl) (lv_at hl 4 rfl) (by omega) hz3 dL_law_1094 dL_law_1095 dL_law_1097 dL_law_1098 dL_law_1099 rfl ?_
  refine wc_V (ci := 5) (a := 0) (pc' := 1103) [.int (iI z1), .int (iI z2), .int (iI z3)] C Dd hl.1 o ?_ kL_106 mX5_agree dL_law_1100 rfl rfl rfl rfl (Nat.le_of_ble_eq_true rfl) (Nat.le_of_ble_eq_true rfl) (by decide) ?_ rfl ho0 E1 (fun ad1 H1 locs1 ha1 o1 g1 Dd1 => ?_)
  · intro u hu; rcases List.mem_cons.mp hu with rfl | hu; exact ok_ref (by omega); (try simp only [List.mem_cons, List.not_mem_nil, or_false] at hu); (first | (rcases hu with rfl | rfl | rfl | rfl | rfl <;> exact ok_int _ _) | (rcases hu with rfl | rfl | rfl | rfl <;> exact ok_int _ _) | (rcases hu with rfl | rfl | rfl <;> exact ok_int _ _) | (rcases hu with rfl | rfl <;> exact ok_int _ _) | (subst hu; exact ok_int _ _) | (cases hu))
  · have g1 : h1.length - h.length ≤ 48 := by omega
    show cells + _ ≤ 600128 ∧ 1000 * cells + 1000 * _ ≤ 7301098; omega
  have hl1 := LSt.next hl (ha1 0 (by omega)) (ha1 34 (by omega)) (ha1 46 (by omega))
  refine lv_aload_n C.1 C.2.1 dL_law_1103 rfl (lv_at hl1 2 rfl) ?_
  refine lw_sc (k := 1) (pc' := 1110) X Dd1.2.2.2.1 (lv_at hl1 0 rfl) (lv_at hl1 4 rfl) (by omega) hz1 dL_law_1104 dL_law_1105 dL_law_1107 dL_law_1108 dL_law_1109 rfl ?_
  refine lw_sc (k := 2) (pc' := 1116) X Dd1.2.2.2.1 (lv_at hl1 0 rfl) (lv_at hl1 4 rfl) (by omega) hz2 dL_law_1110 dL_law_1111 dL_law_1113 dL_law_1114 dL_law_1115 rfl ?_
  refine lw_sc (k := 3) (pc' := 1122) X Dd1.2.2.2.1 (lv_at hl1 0 rfl) (lv_at hl1 4 rfl) (by omega) hz3 dL_law_1116 dL_law_1117 dL_law_1119 dL_law_1120 dL_law_1121 rfl ?_
  refine wc_V (ci := 6) (a := 34) (pc' := 1125) [.int (iI z1), .int (iI z2), .int (iI z3)] C Dd1 hl.1 o1 ?_ kL_109 mX6_agree dL_law_1122 rfl rfl rfl rfl (Nat.le_of_ble_eq_true rfl) (Nat.le_of_ble_eq_true rfl) (by decide) ?_ rfl ho1 E2 (fun ad2 H2 locs2 ha2 o2 g2 Dd2 => ?_)
  · intro u hu; rcases List.mem_cons.mp hu with rfl | hu; exact ok_ref (by omega); (try simp only [List.mem_cons, List.not_mem_nil, or_false] at hu); (first | (rcases hu with rfl | rfl | rfl | rfl | rfl <;> exact ok_int _ _) | (rcases hu with rfl | rfl | rfl | rfl <;> exact ok_int _ _) | (rcases hu with rfl | rfl | rfl <;> exact ok_int _ _) | (rcases hu with rfl | rfl <;> exact ok_int _ _) | (subst hu; exact ok_int _ _) | (cases hu))
  · have g3 : h1.length - h.length ≤ 48 := by omega
    show cells + _ + _ ≤ 600128 ∧ 1000 * (cells + _) + 1000 * _ ≤ 7301098; omega
  have hl2 := LSt.next hl1 (ha2 0 (by omega)) (ha2 34 (by omega)) (ha2 46 (by omega))
  refine lv_icmp_eq (tgt := 1923) C.1 C.2.1 dL_law_1125 (by decide) (fun _ => ?_) (fun q => absurd rfl q)
  exact kk _ _ _ _ _ ⟨ad2, Dd2, hl2, o2, x2⟩ (by omega)
theorem law_c21 (X : LX p s m meth c b L xs) (hi : i + 6 ≤ L) (hc : cells ≤ 5000) (S : LSt D aC s b i H locs ls h) (kk : ∀ (H1 : Heap) (locs1 : List Loc) (ls1 : Array Slot) (h1 : ev_H) (cells1 : Nat), LSt D aC s b i H1 locs1 ls1 h1 → cells1 ≤ cells + 50 → W p l e room_1 s m #[Value.ref b] below meth c H1 locs1 cells1 (1000 * cells1) (lw_Z below #[Value.ref b] s) (F0 m 1923 ls1 [])) : W p l e room_1 s m #[Value.ref b] below meth c H locs cells (1000 * cells) (lw_Z below #[Value.ref b] s) (F0 m 1130 ls []) := by
  obtain ⟨ad, Dd, hl, o, x⟩ := S
  obtain ⟨C, hX, hbl, hL⟩ := id X
  obtain ⟨z1, hz1, r1⟩ : ∃ z : Int, xs (i + 1) = iI z ∧ (-2147483648 ≤ z ∧ z < 2147483648) := ⟨(xs (i + 1)).toInt, (iI_of _).symm, iI_rng _⟩
  obtain ⟨z2, hz2, r2⟩ : ∃ z : Int, xs (i + 2) = iI z ∧ (-2147483648 ≤ z ∧ z < 2147483648) := ⟨(xs (i + 2)).toInt, (iI_of _).symm, iI_rng _⟩
  obtain ⟨z3, hz3, r3⟩ : ∃ z : Int, xs (i + 3) = iI z ∧ (-2147483648 ≤ z ∧ z < 2147483648) := ⟨(xs (i + 3)).toInt, (iI_of _).symm, iI_rng _⟩
  obtain ⟨z4, hz4, r4⟩ : ∃ z : Int, xs (i + 4) = iI z ∧ (-2147483648 ≤ z ∧ z < 2147483648) := ⟨(xs (i + 4)).toInt, (iI_of _).symm, iI_rng _⟩
  obtain ⟨r, h1, h2, E1, E2, x2, L1, L2, fs1, ho1⟩ := s_part (l := l) (h := h) x r1 r2 r3 r4
  have l47 := x.len
  obtain ⟨fs0, ho0⟩ := x.o0
  refine lv_aload_n C.1 C.2.1 dL_law_1130 rfl (lv_at hl 1 rfl) ?_
  refine lw_sc (k := 1) (pc' := 1137) X Dd.2.2.2.1 (lv_at hl 0 rfl) (lv_at hl 4 rfl) (by omega) hz1 dL_law_1131 dL_law_1132 dL_law_1134 dL_law_1135 dL_law_1136 rfl ?_
  refine lw_sc (k := 2) (pc' := 1143) X Dd.2.2.2.1 (lv_at hl 0 rfl) (lv_at hl 4 rfl) (by omega) hz2 dL_law_1137 dL_law_1138 dL_law_1140 dL_law_1141 dL_law_1142 rfl ?_
  refine lw_sc (k := 3) (pc' := 1149) X Dd.2.2.2.1 (lv_at hl 0 rfl) (lv_at hl 4 rfl) (by omega) hz3 dL_law_1143 dL_law_1144 dL_law_1146 dL_law_1147 dL_law_1148 rfl ?_
  refine lw_sc (k := 4) (pc' := 1155) X Dd.2.2.2.1 (lv_at hl 0 rfl) (lv_at hl 4 rfl) (by omega) hz4 dL_law_1149 dL_law_1150 dL_law_1152 dL_law_1153 dL_law_1154 rfl ?_
  refine wc_V (ci := 5) (a := 0) (pc' := 1158) [.int (iI z1), .int (iI z2), .int (iI z3), .int (iI z4)] C Dd hl.1 o ?_ kL_110 mX5_part dL_law_1155 rfl rfl rfl rfl (Nat.le_of_ble_eq_true rfl) (Nat.le_of_ble_eq_true rfl) (by decide) ?_ rfl ho0 E1 (fun ad1 H1 locs1 ha1 o1 g1 Dd1 => ?_)
  · intro u hu; rcases List.mem_cons.mp hu with rfl | hu; exact ok_ref (by omega); (try simp only [List.mem_cons, List.not_mem_nil, or_false] at hu); (first | (rcases hu with rfl | rfl | rfl | rfl | rfl <;> exact ok_int _ _) | (rcases hu with rfl | rfl | rfl | rfl <;> exact ok_int _ _) | (rcases hu with rfl | rfl | rfl <;> exact ok_int _ _) | (rcases hu with rfl | rfl <;> exact ok_int _ _) | (subst hu; exact ok_int _ _) | (cases hu))
  · have g1 : h1.length - h.length ≤ 48 := by omega
    show cells + _ ≤ 600128 ∧ 1000 * cells + 1000 * _ ≤ 7301098; omega
  have hl1 := LSt.next hl (ha1 0 (by omega)) (ha1 34 (by omega)) (ha1 46 (by omega))
  refine lv_aload_n C.1 C.2.1 dL_law_1158 rfl (lv_at hl1 2 rfl) ?_
  refine lw_sc (k := 1) (pc' := 1165) X Dd1.2.2.2.1 (lv_at hl1 0 rfl) (lv_at hl1 4 rfl) (by omega) hz1 dL_law_1159 dL_law_1160 dL_law_1162 dL_law_1163 dL_law_1164 rfl ?_
  refine lw_sc (k := 2) (pc' := 1171) X Dd1.2.2.2.1 (lv_at hl1 0 rfl) (lv_at hl1 4 rfl) (by omega) hz2 dL_law_1165 dL_law_1166 dL_law_1168 dL_law_1169 dL_law_1170 rfl ?_
  refine lw_sc (k := 3) (pc' := 1177) X Dd1.2.2.2.1 (lv_at hl1 0 rfl) (lv_at hl1 4 rfl) (by omega) hz3 dL_law_1171 dL_law_1172 dL_law_1174 dL_law_1175 dL_law_1176 rfl ?_
  refine lw_sc (k := 4) (pc' := 1183) X Dd1.2.2.2.1 (lv_at hl1 0 rfl) (lv_at hl1 4 rfl) (by omega) hz4 dL_law_1177 dL_law_1178 dL_law_1180 dL_law_1181 dL_law_1182 rfl ?_
  refine wc_V (ci := 6) (a := 34) (pc' := 1186) [.int (iI z1), .int (iI z2), .int (iI z3), .int (iI z4)] C Dd1 hl.1 o1 ?_ kL_114 mX6_part dL_law_1183 rfl rfl rfl rfl (Nat.le_of_ble_eq_true rfl) (Nat.le_of_ble_eq_true rfl) (by decide) ?_ rfl ho1 E2 (fun ad2 H2 locs2 ha2 o2 g2 Dd2 => ?_)
  · intro u hu; rcases List.mem_cons.mp hu with rfl | hu; exact ok_ref (by omega); (try simp only [List.mem_cons, List.not_mem_nil, or_false] at hu); (first | (rcases hu with rfl | rfl | rfl | rfl | rfl <;> exact ok_int _ _) | (rcases hu with rfl | rfl | rfl | rfl <;> exact ok_int _ _) | (rcases hu with rfl | rfl | rfl <;> exact ok_int _ _) | (rcases hu with rfl | rfl <;> exact ok_int _ _) | (subst hu; exact ok_int _ _) | (cases hu))
  · have g3 : h1.length - h.length ≤ 48 := by omega
    show cells + _ + _ ≤ 600128 ∧ 1000 * (cells + _) + 1000 * _ ≤ 7301098; omega
  have hl2 := LSt.next hl1 (ha2 0 (by omega)) (ha2 34 (by omega)) (ha2 46 (by omega))
  refine lv_icmp_eq (tgt := 1923) C.1 C.2.1 dL_law_1186 (by decide) (fun _ => ?_) (fun q => absurd rfl q)
  exact kk _ _ _ _ _ ⟨ad2, Dd2, hl2, o2, x2⟩ (by omega)
theorem law_c22 (X : LX p s m meth c b L xs) (hi : i + 6 ≤ L) (hc : cells ≤ 5000) (S : LSt D aC s b i H locs ls h) (kk : ∀ (H1 : Heap) (locs1 : List Loc) (ls1 : Array Slot) (h1 : ev_H) (cells1 : Nat), LSt D aC s b i H1 locs1 ls1 h1 → cells1 ≤ cells + 50 → W p l e room_1 s m #[Value.ref b] below meth c H1 locs1 cells1 (1000 * cells1) (lw_Z below #[Value.ref b] s) (F0 m 1923 ls1 [])) : W p l e room_1 s m #[Value.ref b] below meth c H locs cells (1000 * cells) (lw_Z below #[Value.ref b] s) (F0 m 1191 ls []) := by
  obtain ⟨ad, Dd, hl, o, x⟩ := S
  obtain ⟨C, hX, hbl, hL⟩ := id X
  obtain ⟨z1, hz1, r1⟩ : ∃ z : Int, xs (i + 1) = iI z ∧ (-2147483648 ≤ z ∧ z < 2147483648) := ⟨(xs (i + 1)).toInt, (iI_of _).symm, iI_rng _⟩
  obtain ⟨z2, hz2, r2⟩ : ∃ z : Int, xs (i + 2) = iI z ∧ (-2147483648 ≤ z ∧ z < 2147483648) := ⟨(xs (i + 2)).toInt, (iI_of _).symm, iI_rng _⟩
  obtain ⟨r, h1, h2, E1, E2, x2, L1, L2, fs1, ho1⟩ := s_wrong (l := l) (h := h) x r1 r2
  have l47 := x.len
  obtain ⟨fs0, ho0⟩ := x.o0
  refine lv_aload_n C.1 C.2.1 dL_law_1191 rfl (lv_at hl 1 rfl) ?_
  refine lw_sc (k := 1) (pc' := 1198) X Dd.2.2.2.1 (lv_at hl 0 rfl) (lv_at hl 4 rfl) (by omega) hz1 dL_law_1192 dL_law_1193 dL_law_1195 dL_law_1196 dL_law_1197 rfl ?_
  refine lw_sc (k := 2) (pc' := 1204) X Dd.2.2.2.1 (lv_at hl 0 rfl) (lv_at hl 4 rfl) (by omega) hz2 dL_law_1198 dL_law_1199 dL_law_1201 dL_law_1202 dL_law_1203 rfl ?_
  refine wc_V (ci := 5) (a := 0) (pc' := 1207) [.int (iI z1), .int (iI z2)] C Dd hl.1 o ?_ kL_115 mX5_wrong dL_law_1204 rfl rfl rfl rfl (Nat.le_of_ble_eq_true rfl) (Nat.le_of_ble_eq_true rfl) (by decide) ?_ rfl ho0 E1 (fun ad1 H1 locs1 ha1 o1 g1 Dd1 => ?_)
  · intro u hu; rcases List.mem_cons.mp hu with rfl | hu; exact ok_ref (by omega); (try simp only [List.mem_cons, List.not_mem_nil, or_false] at hu); (first | (rcases hu with rfl | rfl | rfl | rfl | rfl <;> exact ok_int _ _) | (rcases hu with rfl | rfl | rfl | rfl <;> exact ok_int _ _) | (rcases hu with rfl | rfl | rfl <;> exact ok_int _ _) | (rcases hu with rfl | rfl <;> exact ok_int _ _) | (subst hu; exact ok_int _ _) | (cases hu))
  · have g1 : h1.length - h.length ≤ 48 := by omega
    show cells + _ ≤ 600128 ∧ 1000 * cells + 1000 * _ ≤ 7301098; omega
  have hl1 := LSt.next hl (ha1 0 (by omega)) (ha1 34 (by omega)) (ha1 46 (by omega))
  refine lv_aload_n C.1 C.2.1 dL_law_1207 rfl (lv_at hl1 2 rfl) ?_
  refine lw_sc (k := 1) (pc' := 1214) X Dd1.2.2.2.1 (lv_at hl1 0 rfl) (lv_at hl1 4 rfl) (by omega) hz1 dL_law_1208 dL_law_1209 dL_law_1211 dL_law_1212 dL_law_1213 rfl ?_
  refine lw_sc (k := 2) (pc' := 1220) X Dd1.2.2.2.1 (lv_at hl1 0 rfl) (lv_at hl1 4 rfl) (by omega) hz2 dL_law_1214 dL_law_1215 dL_law_1217 dL_law_1218 dL_law_1219 rfl ?_
  refine wc_V (ci := 6) (a := 34) (pc' := 1223) [.int (iI z1), .int (iI z2)] C Dd1 hl.1 o1 ?_ kL_118 mX6_wrong dL_law_1220 rfl rfl rfl rfl (Nat.le_of_ble_eq_true rfl) (Nat.le_of_ble_eq_true rfl) (by decide) ?_ rfl ho1 E2 (fun ad2 H2 locs2 ha2 o2 g2 Dd2 => ?_)
  · intro u hu; rcases List.mem_cons.mp hu with rfl | hu; exact ok_ref (by omega); (try simp only [List.mem_cons, List.not_mem_nil, or_false] at hu); (first | (rcases hu with rfl | rfl | rfl | rfl | rfl <;> exact ok_int _ _) | (rcases hu with rfl | rfl | rfl | rfl <;> exact ok_int _ _) | (rcases hu with rfl | rfl | rfl <;> exact ok_int _ _) | (rcases hu with rfl | rfl <;> exact ok_int _ _) | (subst hu; exact ok_int _ _) | (cases hu))
  · have g3 : h1.length - h.length ≤ 48 := by omega
    show cells + _ + _ ≤ 600128 ∧ 1000 * (cells + _) + 1000 * _ ≤ 7301098; omega
  have hl2 := LSt.next hl1 (ha2 0 (by omega)) (ha2 34 (by omega)) (ha2 46 (by omega))
  refine lv_icmp_eq (tgt := 1923) C.1 C.2.1 dL_law_1223 (by decide) (fun _ => ?_) (fun q => absurd rfl q)
  exact kk _ _ _ _ _ ⟨ad2, Dd2, hl2, o2, x2⟩ (by omega)
theorem law_c23 (X : LX p s m meth c b L xs) (hi : i + 6 ≤ L) (hc : cells ≤ 5000) (S : LSt D aC s b i H locs ls h) (kk : ∀ (H1 : Heap) (locs1 : List Loc) (ls1 : Array Slot) (h1 : ev_H) (cells1 : Nat), LSt D aC s b i H1 locs1 ls1 h1 → cells1 ≤ cells + 50 → W p l e room_1 s m #[Value.ref b] below meth c H1 locs1 cells1 (1000 * cells1) (lw_Z below #[Value.ref b] s) (F0 m 1923 ls1 [])) : W p l e room_1 s m #[Value.ref b] below meth c H locs cells (1000 * cells) (lw_Z below #[Value.ref b] s) (F0 m 1228 ls []) := by
  obtain ⟨ad, Dd, hl, o, x⟩ := S
  obtain ⟨C, hX, hbl, hL⟩ := id X
  obtain ⟨z1, hz1, r1⟩ : ∃ z : Int, xs (i + 1) = iI z ∧ (-2147483648 ≤ z ∧ z < 2147483648) := ⟨(xs (i + 1)).toInt, (iI_of _).symm, iI_rng _⟩
  obtain ⟨z2, hz2, r2⟩ : ∃ z : Int, xs (i + 2) = iI z ∧ (-2147483648 ≤ z ∧ z < 2147483648) := ⟨(xs (i + 2)).toInt, (iI_of _).symm, iI_rng _⟩
  obtain ⟨r, h1, h2, E1, E2, x2, L1, L2, fs1, ho1⟩ := s_bestLine (l := l) (h := h) x r1 r2
  have l47 := x.len
  obtain ⟨fs0, ho0⟩ := x.o0
  refine lv_aload_n C.1 C.2.1 dL_law_1228 rfl (lv_at hl 1 rfl) ?_
  refine lw_sc (k := 1) (pc' := 1235) X Dd.2.2.2.1 (lv_at hl 0 rfl) (lv_at hl 4 rfl) (by omega) hz1 dL_law_1229 dL_law_1230 dL_law_1232 dL_law_1233 dL_law_1234 rfl ?_
  refine lw_sc (k := 2) (pc' := 1241) X Dd.2.2.2.1 (lv_at hl 0 rfl) (lv_at hl 4 rfl) (by omega) hz2 dL_law_1235 dL_law_1236 dL_law_1238 dL_law_1239 dL_law_1240 rfl ?_
  refine wc_V (ci := 5) (a := 0) (pc' := 1244) [.int (iI z1), .int (iI z2)] C Dd hl.1 o ?_ kL_119 mX5_bestLine dL_law_1241 rfl rfl rfl rfl (Nat.le_of_ble_eq_true rfl) (Nat.le_of_ble_eq_true rfl) (by decide) ?_ rfl ho0 E1 (fun ad1 H1 locs1 ha1 o1 g1 Dd1 => ?_)
  · intro u hu; rcases List.mem_cons.mp hu with rfl | hu; exact ok_ref (by omega); (try simp only [List.mem_cons, List.not_mem_nil, or_false] at hu); (first | (rcases hu with rfl | rfl | rfl | rfl | rfl <;> exact ok_int _ _) | (rcases hu with rfl | rfl | rfl | rfl <;> exact ok_int _ _) | (rcases hu with rfl | rfl | rfl <;> exact ok_int _ _) | (rcases hu with rfl | rfl <;> exact ok_int _ _) | (subst hu; exact ok_int _ _) | (cases hu))
  · have g1 : h1.length - h.length ≤ 48 := by omega
    show cells + _ ≤ 600128 ∧ 1000 * cells + 1000 * _ ≤ 7301098; omega
  have hl1 := LSt.next hl (ha1 0 (by omega)) (ha1 34 (by omega)) (ha1 46 (by omega))
  refine lv_aload_n C.1 C.2.1 dL_law_1244 rfl (lv_at hl1 2 rfl) ?_
  refine lw_sc (k := 1) (pc' := 1251) X Dd1.2.2.2.1 (lv_at hl1 0 rfl) (lv_at hl1 4 rfl) (by omega) hz1 dL_law_1245 dL_law_1246 dL_law_1248 dL_law_1249 dL_law_1250 rfl ?_
  refine lw_sc (k := 2) (pc' := 1257) X Dd1.2.2.2.1 (lv_at hl1 0 rfl) (lv_at hl1 4 rfl) (by omega) hz2 dL_law_1251 dL_law_1252 dL_law_1254 dL_law_1255 dL_law_1256 rfl ?_
  refine wc_V (ci := 6) (a := 34) (pc' := 1260) [.int (iI z1), .int (iI z2)] C Dd1 hl.1 o1 ?_ kL_122 mX6_bestLine dL_law_1257 rfl rfl rfl rfl (Nat.le_of_ble_eq_true rfl) (Nat.le_of_ble_eq_true rfl) (by decide) ?_ rfl ho1 E2 (fun ad2 H2 locs2 ha2 o2 g2 Dd2 => ?_)
  · intro u hu; rcases List.mem_cons.mp hu with rfl | hu; exact ok_ref (by omega); (try simp only [List.mem_cons, List.not_mem_nil, or_false] at hu); (first | (rcases hu with rfl | rfl | rfl | rfl | rfl <;> exact ok_int _ _) | (rcases hu with rfl | rfl | rfl | rfl <;> exact ok_int _ _) | (rcases hu with rfl | rfl | rfl <;> exact ok_int _ _) | (rcases hu with rfl | rfl <;> exact ok_int _ _) | (subst hu; exact ok_int _ _) | (cases hu))
  · have g3 : h1.length - h.length ≤ 48 := by omega
    show cells + _ + _ ≤ 600128 ∧ 1000 * (cells + _) + 1000 * _ ≤ 7301098; omega
  have hl2 := LSt.next hl1 (ha2 0 (by omega)) (ha2 34 (by omega)) (ha2 46 (by omega))
  refine lv_icmp_eq (tgt := 1923) C.1 C.2.1 dL_law_1260 (by decide) (fun _ => ?_) (fun q => absurd rfl q)
  exact kk _ _ _ _ _ ⟨ad2, Dd2, hl2, o2, x2⟩ (by omega)
theorem law_c24 (X : LX p s m meth c b L xs) (hi : i + 6 ≤ L) (hc : cells ≤ 5000) (S : LSt D aC s b i H locs ls h) (kk : ∀ (H1 : Heap) (locs1 : List Loc) (ls1 : Array Slot) (h1 : ev_H) (cells1 : Nat), LSt D aC s b i H1 locs1 ls1 h1 → cells1 ≤ cells + 50 → W p l e room_1 s m #[Value.ref b] below meth c H1 locs1 cells1 (1000 * cells1) (lw_Z below #[Value.ref b] s) (F0 m 1923 ls1 [])) : W p l e room_1 s m #[Value.ref b] below meth c H locs cells (1000 * cells) (lw_Z below #[Value.ref b] s) (F0 m 1265 ls []) := by
  obtain ⟨ad, Dd, hl, o, x⟩ := S
  obtain ⟨C, hX, hbl, hL⟩ := id X
  obtain ⟨z1, hz1, r1⟩ : ∃ z : Int, xs (i + 1) = iI z ∧ (-2147483648 ≤ z ∧ z < 2147483648) := ⟨(xs (i + 1)).toInt, (iI_of _).symm, iI_rng _⟩
  obtain ⟨z2, hz2, r2⟩ : ∃ z : Int, xs (i + 2) = iI z ∧ (-2147483648 ≤ z ∧ z < 2147483648) := ⟨(xs (i + 2)).toInt, (iI_of _).symm, iI_rng _⟩
  obtain ⟨r, h1, h2, E1, E2, x2, L1, L2, fs1, ho1⟩ := s_moved (l := l) (h := h) x r1 r2
  have l47 := x.len
  obtain ⟨fs0, ho0⟩ := x.o0
  refine lv_aload_n C.1 C.2.1 dL_law_1265 rfl (lv_at hl 1 rfl) ?_
  refine lw_sc (k := 1) (pc' := 1272) X Dd.2.2.2.1 (lv_at hl 0 rfl) (lv_at hl 4 rfl) (by omega) hz1 dL_law_1266 dL_law_1267 dL_law_1269 dL_law_1270 dL_law_1271 rfl ?_
  refine lw_sc (k := 2) (pc' := 1278) X Dd.2.2.2.1 (lv_at hl 0 rfl) (lv_at hl 4 rfl) (by omega) hz2 dL_law_1272 dL_law_1273 dL_law_1275 dL_law_1276 dL_law_1277 rfl ?_
  refine wc_V (ci := 5) (a := 0) (pc' := 1281) [.int (iI z1), .int (iI z2)] C Dd hl.1 o ?_ kL_123 mX5_moved dL_law_1278 rfl rfl rfl rfl (Nat.le_of_ble_eq_true rfl) (Nat.le_of_ble_eq_true rfl) (by decide) ?_ rfl ho0 E1 (fun ad1 H1 locs1 ha1 o1 g1 Dd1 => ?_)
  · intro u hu; rcases List.mem_cons.mp hu with rfl | hu; exact ok_ref (by omega); (try simp only [List.mem_cons, List.not_mem_nil, or_false] at hu); (first | (rcases hu with rfl | rfl | rfl | rfl | rfl <;> exact ok_int _ _) | (rcases hu with rfl | rfl | rfl | rfl <;> exact ok_int _ _) | (rcases hu with rfl | rfl | rfl <;> exact ok_int _ _) | (rcases hu with rfl | rfl <;> exact ok_int _ _) | (subst hu; exact ok_int _ _) | (cases hu))
  · have g1 : h1.length - h.length ≤ 48 := by omega
    show cells + _ ≤ 600128 ∧ 1000 * cells + 1000 * _ ≤ 7301098; omega
  have hl1 := LSt.next hl (ha1 0 (by omega)) (ha1 34 (by omega)) (ha1 46 (by omega))
  refine lv_aload_n C.1 C.2.1 dL_law_1281 rfl (lv_at hl1 2 rfl) ?_
  refine lw_sc (k := 1) (pc' := 1288) X Dd1.2.2.2.1 (lv_at hl1 0 rfl) (lv_at hl1 4 rfl) (by omega) hz1 dL_law_1282 dL_law_1283 dL_law_1285 dL_law_1286 dL_law_1287 rfl ?_
  refine lw_sc (k := 2) (pc' := 1294) X Dd1.2.2.2.1 (lv_at hl1 0 rfl) (lv_at hl1 4 rfl) (by omega) hz2 dL_law_1288 dL_law_1289 dL_law_1291 dL_law_1292 dL_law_1293 rfl ?_
  refine wc_V (ci := 6) (a := 34) (pc' := 1297) [.int (iI z1), .int (iI z2)] C Dd1 hl.1 o1 ?_ kL_126 mX6_moved dL_law_1294 rfl rfl rfl rfl (Nat.le_of_ble_eq_true rfl) (Nat.le_of_ble_eq_true rfl) (by decide) ?_ rfl ho1 E2 (fun ad2 H2 locs2 ha2 o2 g2 Dd2 => ?_)
  · intro u hu; rcases List.mem_cons.mp hu with rfl | hu; exact ok_ref (by omega); (try simp only [List.mem_cons, List.not_mem_nil, or_false] at hu); (first | (rcases hu with rfl | rfl | rfl | rfl | rfl <;> exact ok_int _ _) | (rcases hu with rfl | rfl | rfl | rfl <;> exact ok_int _ _) | (rcases hu with rfl | rfl | rfl <;> exact ok_int _ _) | (rcases hu with rfl | rfl <;> exact ok_int _ _) | (subst hu; exact ok_int _ _) | (cases hu))
  · have g3 : h1.length - h.length ≤ 48 := by omega
    show cells + _ + _ ≤ 600128 ∧ 1000 * (cells + _) + 1000 * _ ≤ 7301098; omega
  have hl2 := LSt.next hl1 (ha2 0 (by omega)) (ha2 34 (by omega)) (ha2 46 (by omega))
  refine lv_icmp_eq (tgt := 1923) C.1 C.2.1 dL_law_1297 (by decide) (fun _ => ?_) (fun q => absurd rfl q)
  exact kk _ _ _ _ _ ⟨ad2, Dd2, hl2, o2, x2⟩ (by omega)
theorem law_c25 (X : LX p s m meth c b L xs) (hi : i + 6 ≤ L) (hc : cells ≤ 5000) (S : LSt D aC s b i H locs ls h) (kk : ∀ (H1 : Heap) (locs1 : List Loc) (ls1 : Array Slot) (h1 : ev_H) (cells1 : Nat), LSt D aC s b i H1 locs1 ls1 h1 → cells1 ≤ cells + 50 → W p l e room_1 s m #[Value.ref b] below meth c H1 locs1 cells1 (1000 * cells1) (lw_Z below #[Value.ref b] s) (F0 m 1923 ls1 [])) : W p l e room_1 s m #[Value.ref b] below meth c H locs cells (1000 * cells) (lw_Z below #[Value.ref b] s) (F0 m 1302 ls []) := by
  obtain ⟨ad, Dd, hl, o, x⟩ := S
  obtain ⟨C, hX, hbl, hL⟩ := id X
  obtain ⟨z1, hz1, r1⟩ : ∃ z : Int, xs (i + 1) = iI z ∧ (-2147483648 ≤ z ∧ z < 2147483648) := ⟨(xs (i + 1)).toInt, (iI_of _).symm, iI_rng _⟩
  obtain ⟨z2, hz2, r2⟩ : ∃ z : Int, xs (i + 2) = iI z ∧ (-2147483648 ≤ z ∧ z < 2147483648) := ⟨(xs (i + 2)).toInt, (iI_of _).symm, iI_rng _⟩
  obtain ⟨z3, hz3, r3⟩ : ∃ z : Int, xs (i + 3) = iI z ∧ (-2147483648 ≤ z ∧ z < 2147483648) := ⟨(xs (i + 3)).toInt, (iI_of _).symm, iI_rng _⟩
  obtain ⟨z4, hz4, r4⟩ : ∃ z : Int, xs (i + 4) = iI z ∧ (-2147483648 ≤ z ∧ z < 2147483648) := ⟨(xs (i + 4)).toInt, (iI_of _).symm, iI_rng _⟩
  obtain ⟨r, h1, h2, E1, E2, x2, L1, L2, fs1, ho1⟩ := s_judge (l := l) (h := h) x r1 r2 r3 r4
  have l47 := x.len
  obtain ⟨fs0, ho0⟩ := x.o0
  refine lv_aload_n C.1 C.2.1 dL_law_1302 rfl (lv_at hl 1 rfl) ?_
  refine lw_sc (k := 1) (pc' := 1309) X Dd.2.2.2.1 (lv_at hl 0 rfl) (lv_at hl 4 rfl) (by omega) hz1 dL_law_1303 dL_law_1304 dL_law_1306 dL_law_1307 dL_law_1308 rfl ?_
  refine lw_sc (k := 2) (pc' := 1315) X Dd.2.2.2.1 (lv_at hl 0 rfl) (lv_at hl 4 rfl) (by omega) hz2 dL_law_1309 dL_law_1310 dL_law_1312 dL_law_1313 dL_law_1314 rfl ?_
  refine lw_sc (k := 3) (pc' := 1321) X Dd.2.2.2.1 (lv_at hl 0 rfl) (lv_at hl 4 rfl) (by omega) hz3 dL_law_1315 dL_law_1316 dL_law_1318 dL_law_1319 dL_law_1320 rfl ?_
  refine lw_sc (k := 4) (pc' := 1327) X Dd.2.2.2.1 (lv_at hl 0 rfl) (lv_at hl 4 rfl) (by omega) hz4 dL_law_1321 dL_law_1322 dL_law_1324 dL_law_1325 dL_law_1326 rfl ?_
  refine wc_V (ci := 5) (a := 0) (pc' := 1330) [.int (iI z1), .int (iI z2), .int (iI z3), .int (iI z4)] C Dd hl.1 o ?_ kL_127 mX5_judge dL_law_1327 rfl rfl rfl rfl (Nat.le_of_ble_eq_true rfl) (Nat.le_of_ble_eq_true rfl) (by decide) ?_ rfl ho0 E1 (fun ad1 H1 locs1 ha1 o1 g1 Dd1 => ?_)
  · intro u hu; rcases List.mem_cons.mp hu with rfl | hu; exact ok_ref (by omega); (try simp only [List.mem_cons, List.not_mem_nil, or_false] at hu); (first | (rcases hu with rfl | rfl | rfl | rfl | rfl <;> exact ok_int _ _) | (rcases hu with rfl | rfl | rfl | rfl <;> exact ok_int _ _) | (rcases hu with rfl | rfl | rfl <;> exact ok_int _ _) | (rcases hu with rfl | rfl <;> exact ok_int _ _) | (subst hu; exact ok_int _ _) | (cases hu))
  · have g1 : h1.length - h.length ≤ 48 := by omega
    show cells + _ ≤ 600128 ∧ 1000 * cells + 1000 * _ ≤ 7301098; omega
  have hl1 := LSt.next hl (ha1 0 (by omega)) (ha1 34 (by omega)) (ha1 46 (by omega))
  refine lv_aload_n C.1 C.2.1 dL_law_1330 rfl (lv_at hl1 2 rfl) ?_
  refine lw_sc (k := 1) (pc' := 1337) X Dd1.2.2.2.1 (lv_at hl1 0 rfl) (lv_at hl1 4 rfl) (by omega) hz1 dL_law_1331 dL_law_1332 dL_law_1334 dL_law_1335 dL_law_1336 rfl ?_
  refine lw_sc (k := 2) (pc' := 1343) X Dd1.2.2.2.1 (lv_at hl1 0 rfl) (lv_at hl1 4 rfl) (by omega) hz2 dL_law_1337 dL_law_1338 dL_law_1340 dL_law_1341 dL_law_1342 rfl ?_
  refine lw_sc (k := 3) (pc' := 1349) X Dd1.2.2.2.1 (lv_at hl1 0 rfl) (lv_at hl1 4 rfl) (by omega) hz3 dL_law_1343 dL_law_1344 dL_law_1346 dL_law_1347 dL_law_1348 rfl ?_
  refine lw_sc (k := 4) (pc' := 1355) X Dd1.2.2.2.1 (lv_at hl1 0 rfl) (lv_at hl1 4 rfl) (by omega) hz4 dL_law_1349 dL_law_1350 dL_law_1352 dL_law_1353 dL_law_1354 rfl ?_
  refine wc_V (ci := 6) (a := 34) (pc' := 1358) [.int (iI z1), .int (iI z2), .int (iI z3), .int (iI z4)] C Dd1 hl.1 o1 ?_ kL_130 mX6_judge dL_law_1355 rfl rfl rfl rfl (Nat.le_of_ble_eq_true rfl) (Nat.le_of_ble_eq_true rfl) (by decide) ?_ rfl ho1 E2 (fun ad2 H2 locs2 ha2 o2 g2 Dd2 => ?_)
  · intro u hu; rcases List.mem_cons.mp hu with rfl | hu; exact ok_ref (by omega); (try simp only [List.mem_cons, List.not_mem_nil, or_false] at hu); (first | (rcases hu with rfl | rfl | rfl | rfl | rfl <;> exact ok_int _ _) | (rcases hu with rfl | rfl | rfl | rfl <;> exact ok_int _ _) | (rcases hu with rfl | rfl | rfl <;> exact ok_int _ _) | (rcases hu with rfl | rfl <;> exact ok_int _ _) | (subst hu; exact ok_int _ _) | (cases hu))
  · have g3 : h1.length - h.length ≤ 48 := by omega
    show cells + _ + _ ≤ 600128 ∧ 1000 * (cells + _) + 1000 * _ ≤ 7301098; omega
  have hl2 := LSt.next hl1 (ha2 0 (by omega)) (ha2 34 (by omega)) (ha2 46 (by omega))
  refine lv_icmp_eq (tgt := 1923) C.1 C.2.1 dL_law_1358 (by decide) (fun _ => ?_) (fun q => absurd rfl q)
  exact kk _ _ _ _ _ ⟨ad2, Dd2, hl2, o2, x2⟩ (by omega)
theorem law_c26 (X : LX p s m meth c b L xs) (hi : i + 6 ≤ L) (hc : cells ≤ 5000) (S : LSt D aC s b i H locs ls h) (kk : ∀ (H1 : Heap) (locs1 : List Loc) (ls1 : Array Slot) (h1 : ev_H) (cells1 : Nat), LSt D aC s b i H1 locs1 ls1 h1 → cells1 ≤ cells + 50 → W p l e room_1 s m #[Value.ref b] below meth c H1 locs1 cells1 (1000 * cells1) (lw_Z below #[Value.ref b] s) (F0 m 1923 ls1 [])) : W p l e room_1 s m #[Value.ref b] below meth c H locs cells (1000 * cells) (lw_Z below #[Value.ref b] s) (F0 m 1363 ls []) := by
  obtain ⟨ad, Dd, hl, o, x⟩ := S
  obtain ⟨C, hX, hbl, hL⟩ := id X
  obtain ⟨z1, hz1, r1⟩ : ∃ z : Int, xs (i + 1) = iI z ∧ (-2147483648 ≤ z ∧ z < 2147483648) := ⟨(xs (i + 1)).toInt, (iI_of _).symm, iI_rng _⟩
  obtain ⟨z2, hz2, r2⟩ : ∃ z : Int, xs (i + 2) = iI z ∧ (-2147483648 ≤ z ∧ z < 2147483648) := ⟨(xs (i + 2)).toInt, (iI_of _).symm, iI_rng _⟩
  obtain ⟨z3, hz3, r3⟩ : ∃ z : Int, xs (i + 3) = iI z ∧ (-2147483648 ≤ z ∧ z < 2147483648) := ⟨(xs (i + 3)).toInt, (iI_of _).symm, iI_rng _⟩
  obtain ⟨r, h1, h2, E1, E2, x2, L1, L2, fs1, ho1⟩ := s_kept (l := l) (h := h) x r1 r2 r3
  have l47 := x.len
  obtain ⟨fs0, ho0⟩ := x.o0
  refine lv_aload_n C.1 C.2.1 dL_law_1363 rfl (lv_at hl 1 rfl) ?_
  refine lw_sc (k := 1) (pc' := 1370) X Dd.2.2.2.1 (lv_at hl 0 rfl) (lv_at hl 4 rfl) (by omega) hz1 dL_law_1364 dL_law_1365 dL_law_1367 dL_law_1368 dL_law_1369 rfl ?_
  refine lw_sc (k := 2) (pc' := 1376) X Dd.2.2.2.1 (lv_at hl 0 rfl) (lv_at hl 4 rfl) (by omega) hz2 dL_law_1370 dL_law_1371 dL_law_1373 dL_law_1374 dL_law_1375 rfl ?_
  refine lw_sc (k := 3) (pc' := 1382) X Dd.2.2.2.1 (lv_at hl 0 rfl) (lv_at hl 4 rfl) (by omega) hz3 dL_law_1376 dL_law_1377 dL_law_1379 dL_law_1380 dL_law_1381 rfl ?_
  refine wc_V (ci := 5) (a := 0) (pc' := 1385) [.int (iI z1), .int (iI z2), .int (iI z3)] C Dd hl.1 o ?_ kL_131 mX5_kept dL_law_1382 rfl rfl rfl rfl (Nat.le_of_ble_eq_true rfl) (Nat.le_of_ble_eq_true rfl) (by decide) ?_ rfl ho0 E1 (fun ad1 H1 locs1 ha1 o1 g1 Dd1 => ?_)
  · intro u hu; rcases List.mem_cons.mp hu with rfl | hu; exact ok_ref (by omega); (try simp only [List.mem_cons, List.not_mem_nil, or_false] at hu); (first | (rcases hu with rfl | rfl | rfl | rfl | rfl <;> exact ok_int _ _) | (rcases hu with rfl | rfl | rfl | rfl <;> exact ok_int _ _) | (rcases hu with rfl | rfl | rfl <;> exact ok_int _ _) | (rcases hu with rfl | rfl <;> exact ok_int _ _) | (subst hu; exact ok_int _ _) | (cases hu))
  · have g1 : h1.length - h.length ≤ 48 := by omega
    show cells + _ ≤ 600128 ∧ 1000 * cells + 1000 * _ ≤ 7301098; omega
  have hl1 := LSt.next hl (ha1 0 (by omega)) (ha1 34 (by omega)) (ha1 46 (by omega))
  refine lv_aload_n C.1 C.2.1 dL_law_1385 rfl (lv_at hl1 2 rfl) ?_
  refine lw_sc (k := 1) (pc' := 1392) X Dd1.2.2.2.1 (lv_at hl1 0 rfl) (lv_at hl1 4 rfl) (by omega) hz1 dL_law_1386 dL_law_1387 dL_law_1389 dL_law_1390 dL_law_1391 rfl ?_
  refine lw_sc (k := 2) (pc' := 1398) X Dd1.2.2.2.1 (lv_at hl1 0 rfl) (lv_at hl1 4 rfl) (by omega) hz2 dL_law_1392 dL_law_1393 dL_law_1395 dL_law_1396 dL_law_1397 rfl ?_
  refine lw_sc (k := 3) (pc' := 1404) X Dd1.2.2.2.1 (lv_at hl1 0 rfl) (lv_at hl1 4 rfl) (by omega) hz3 dL_law_1398 dL_law_1399 dL_law_1401 dL_law_1402 dL_law_1403 rfl ?_
  refine wc_V (ci := 6) (a := 34) (pc' := 1407) [.int (iI z1), .int (iI z2), .int (iI z3)] C Dd1 hl.1 o1 ?_ kL_134 mX6_kept dL_law_1404 rfl rfl rfl rfl (Nat.le_of_ble_eq_true rfl) (Nat.le_of_ble_eq_true rfl) (by decide) ?_ rfl ho1 E2 (fun ad2 H2 locs2 ha2 o2 g2 Dd2 => ?_)
  · intro u hu; rcases List.mem_cons.mp hu with rfl | hu; exact ok_ref (by omega); (try simp only [List.mem_cons, List.not_mem_nil, or_false] at hu); (first | (rcases hu with rfl | rfl | rfl | rfl | rfl <;> exact ok_int _ _) | (rcases hu with rfl | rfl | rfl | rfl <;> exact ok_int _ _) | (rcases hu with rfl | rfl | rfl <;> exact ok_int _ _) | (rcases hu with rfl | rfl <;> exact ok_int _ _) | (subst hu; exact ok_int _ _) | (cases hu))
  · have g3 : h1.length - h.length ≤ 48 := by omega
    show cells + _ + _ ≤ 600128 ∧ 1000 * (cells + _) + 1000 * _ ≤ 7301098; omega
  have hl2 := LSt.next hl1 (ha2 0 (by omega)) (ha2 34 (by omega)) (ha2 46 (by omega))
  refine lv_icmp_eq (tgt := 1923) C.1 C.2.1 dL_law_1407 (by decide) (fun _ => ?_) (fun q => absurd rfl q)
  exact kk _ _ _ _ _ ⟨ad2, Dd2, hl2, o2, x2⟩ (by omega)
theorem law_c27 (X : LX p s m meth c b L xs) (hi : i + 6 ≤ L) (hc : cells ≤ 5000) (S : LSt D aC s b i H locs ls h) (kk : ∀ (H1 : Heap) (locs1 : List Loc) (ls1 : Array Slot) (h1 : ev_H) (cells1 : Nat), LSt D aC s b i H1 locs1 ls1 h1 → cells1 ≤ cells + 50 → W p l e room_1 s m #[Value.ref b] below meth c H1 locs1 cells1 (1000 * cells1) (lw_Z below #[Value.ref b] s) (F0 m 1923 ls1 [])) : W p l e room_1 s m #[Value.ref b] below meth c H locs cells (1000 * cells) (lw_Z below #[Value.ref b] s) (F0 m 1412 ls []) := by
  obtain ⟨ad, Dd, hl, o, x⟩ := S
  obtain ⟨C, hX, hbl, hL⟩ := id X
  obtain ⟨z1, hz1, r1⟩ : ∃ z : Int, xs (i + 1) = iI z ∧ (-2147483648 ≤ z ∧ z < 2147483648) := ⟨(xs (i + 1)).toInt, (iI_of _).symm, iI_rng _⟩
  obtain ⟨z2, hz2, r2⟩ : ∃ z : Int, xs (i + 2) = iI z ∧ (-2147483648 ≤ z ∧ z < 2147483648) := ⟨(xs (i + 2)).toInt, (iI_of _).symm, iI_rng _⟩
  obtain ⟨r, h1, h2, E1, E2, x2, L1, L2, fs1, ho1⟩ := s_rounds (l := l) (h := h) x r1 r2
  have l47 := x.len
  obtain ⟨fs0, ho0⟩ := x.o0
  refine lv_aload_n C.1 C.2.1 dL_law_1412 rfl (lv_at hl 1 rfl) ?_
  refine lw_sc (k := 1) (pc' := 1419) X Dd.2.2.2.1 (lv_at hl 0 rfl) (lv_at hl 4 rfl) (by omega) hz1 dL_law_1413 dL_law_1414 dL_law_1416 dL_law_1417 dL_law_1418 rfl ?_
  refine lw_sc (k := 2) (pc' := 1425) X Dd.2.2.2.1 (lv_at hl 0 rfl) (lv_at hl 4 rfl) (by omega) hz2 dL_law_1419 dL_law_1420 dL_law_1422 dL_law_1423 dL_law_1424 rfl ?_
  refine wc_V (ci := 5) (a := 0) (pc' := 1428) [.int (iI z1), .int (iI z2)] C Dd hl.1 o ?_ kL_135 mX5_rounds dL_law_1425 rfl rfl rfl rfl (Nat.le_of_ble_eq_true rfl) (Nat.le_of_ble_eq_true rfl) (by decide) ?_ rfl ho0 E1 (fun ad1 H1 locs1 ha1 o1 g1 Dd1 => ?_)
  · intro u hu; rcases List.mem_cons.mp hu with rfl | hu; exact ok_ref (by omega); (try simp only [List.mem_cons, List.not_mem_nil, or_false] at hu); (first | (rcases hu with rfl | rfl | rfl | rfl | rfl <;> exact ok_int _ _) | (rcases hu with rfl | rfl | rfl | rfl <;> exact ok_int _ _) | (rcases hu with rfl | rfl | rfl <;> exact ok_int _ _) | (rcases hu with rfl | rfl <;> exact ok_int _ _) | (subst hu; exact ok_int _ _) | (cases hu))
  · have g1 : h1.length - h.length ≤ 48 := by omega
    show cells + _ ≤ 600128 ∧ 1000 * cells + 1000 * _ ≤ 7301098; omega
  have hl1 := LSt.next hl (ha1 0 (by omega)) (ha1 34 (by omega)) (ha1 46 (by omega))
  refine lv_aload_n C.1 C.2.1 dL_law_1428 rfl (lv_at hl1 2 rfl) ?_
  refine lw_sc (k := 1) (pc' := 1435) X Dd1.2.2.2.1 (lv_at hl1 0 rfl) (lv_at hl1 4 rfl) (by omega) hz1 dL_law_1429 dL_law_1430 dL_law_1432 dL_law_1433 dL_law_1434 rfl ?_
  refine lw_sc (k := 2) (pc' := 1441) X Dd1.2.2.2.1 (lv_at hl1 0 rfl) (lv_at hl1 4 rfl) (by omega) hz2 dL_law_1435 dL_law_1436 dL_law_1438 dL_law_1439 dL_law_1440 rfl ?_
  refine wc_V (ci := 6) (a := 34) (pc' := 1444) [.int (iI z1), .int (iI z2)] C Dd1 hl.1 o1 ?_ kL_138 mX6_rounds dL_law_1441 rfl rfl rfl rfl (Nat.le_of_ble_eq_true rfl) (Nat.le_of_ble_eq_true rfl) (by decide) ?_ rfl ho1 E2 (fun ad2 H2 locs2 ha2 o2 g2 Dd2 => ?_)
  · intro u hu; rcases List.mem_cons.mp hu with rfl | hu; exact ok_ref (by omega); (try simp only [List.mem_cons, List.not_mem_nil, or_false] at hu); (first | (rcases hu with rfl | rfl | rfl | rfl | rfl <;> exact ok_int _ _) | (rcases hu with rfl | rfl | rfl | rfl <;> exact ok_int _ _) | (rcases hu with rfl | rfl | rfl <;> exact ok_int _ _) | (rcases hu with rfl | rfl <;> exact ok_int _ _) | (subst hu; exact ok_int _ _) | (cases hu))
  · have g3 : h1.length - h.length ≤ 48 := by omega
    show cells + _ + _ ≤ 600128 ∧ 1000 * (cells + _) + 1000 * _ ≤ 7301098; omega
  have hl2 := LSt.next hl1 (ha2 0 (by omega)) (ha2 34 (by omega)) (ha2 46 (by omega))
  refine lv_icmp_eq (tgt := 1923) C.1 C.2.1 dL_law_1444 (by decide) (fun _ => ?_) (fun q => absurd rfl q)
  exact kk _ _ _ _ _ ⟨ad2, Dd2, hl2, o2, x2⟩ (by omega)
theorem law_c28 (X : LX p s m meth c b L xs) (hi : i + 6 ≤ L) (hc : cells ≤ 5000) (S : LSt D aC s b i H locs ls h) (kk : ∀ (H1 : Heap) (locs1 : List Loc) (ls1 : Array Slot) (h1 : ev_H) (cells1 : Nat), LSt D aC s b i H1 locs1 ls1 h1 → cells1 ≤ cells + 50 → W p l e room_1 s m #[Value.ref b] below meth c H1 locs1 cells1 (1000 * cells1) (lw_Z below #[Value.ref b] s) (F0 m 1923 ls1 [])) : W p l e room_1 s m #[Value.ref b] below meth c H locs cells (1000 * cells) (lw_Z below #[Value.ref b] s) (F0 m 1449 ls []) := by
  obtain ⟨ad, Dd, hl, o, x⟩ := S
  obtain ⟨C, hX, hbl, hL⟩ := id X
  obtain ⟨z1, hz1, r1⟩ : ∃ z : Int, xs (i + 1) = iI z ∧ (-2147483648 ≤ z ∧ z < 2147483648) := ⟨(xs (i + 1)).toInt, (iI_of _).symm, iI_rng _⟩
  obtain ⟨z2, hz2, r2⟩ : ∃ z : Int, xs (i + 2) = iI z ∧ (-2147483648 ≤ z ∧ z < 2147483648) := ⟨(xs (i + 2)).toInt, (iI_of _).symm, iI_rng _⟩
  obtain ⟨r, h1, h2, E1, E2, x2, L1, L2, fs1, ho1⟩ := s_log (l := l) (h := h) x r1 r2
  have l47 := x.len
  obtain ⟨fs0, ho0⟩ := x.o0
  refine lv_aload_n C.1 C.2.1 dL_law_1449 rfl (lv_at hl 1 rfl) ?_
  refine lw_sc (k := 1) (pc' := 1456) X Dd.2.2.2.1 (lv_at hl 0 rfl) (lv_at hl 4 rfl) (by omega) hz1 dL_law_1450 dL_law_1451 dL_law_1453 dL_law_1454 dL_law_1455 rfl ?_
  refine lw_sc (k := 2) (pc' := 1462) X Dd.2.2.2.1 (lv_at hl 0 rfl) (lv_at hl 4 rfl) (by omega) hz2 dL_law_1456 dL_law_1457 dL_law_1459 dL_law_1460 dL_law_1461 rfl ?_
  refine wc_V (ci := 5) (a := 0) (pc' := 1465) [.int (iI z1), .int (iI z2)] C Dd hl.1 o ?_ kL_139 mX5_log dL_law_1462 rfl rfl rfl rfl (Nat.le_of_ble_eq_true rfl) (Nat.le_of_ble_eq_true rfl) (by decide) ?_ rfl ho0 E1 (fun ad1 H1 locs1 ha1 o1 g1 Dd1 => ?_)
  · intro u hu; rcases List.mem_cons.mp hu with rfl | hu; exact ok_ref (by omega); (try simp only [List.mem_cons, List.not_mem_nil, or_false] at hu); (first | (rcases hu with rfl | rfl | rfl | rfl | rfl <;> exact ok_int _ _) | (rcases hu with rfl | rfl | rfl | rfl <;> exact ok_int _ _) | (rcases hu with rfl | rfl | rfl <;> exact ok_int _ _) | (rcases hu with rfl | rfl <;> exact ok_int _ _) | (subst hu; exact ok_int _ _) | (cases hu))
  · have g1 : h1.length - h.length ≤ 48 := by omega
    show cells + _ ≤ 600128 ∧ 1000 * cells + 1000 * _ ≤ 7301098; omega
  have hl1 := LSt.next hl (ha1 0 (by omega)) (ha1 34 (by omega)) (ha1 46 (by omega))
  refine lv_aload_n C.1 C.2.1 dL_law_1465 rfl (lv_at hl1 2 rfl) ?_
  refine lw_sc (k := 1) (pc' := 1472) X Dd1.2.2.2.1 (lv_at hl1 0 rfl) (lv_at hl1 4 rfl) (by omega) hz1 dL_law_1466 dL_law_1467 dL_law_1469 dL_law_1470 dL_law_1471 rfl ?_
  refine lw_sc (k := 2) (pc' := 1478) X Dd1.2.2.2.1 (lv_at hl1 0 rfl) (lv_at hl1 4 rfl) (by omega) hz2 dL_law_1472 dL_law_1473 dL_law_1475 dL_law_1476 dL_law_1477 rfl ?_
  refine wc_V (ci := 6) (a := 34) (pc' := 1481) [.int (iI z1), .int (iI z2)] C Dd1 hl.1 o1 ?_ kL_142 mX6_log dL_law_1478 rfl rfl rfl rfl (Nat.le_of_ble_eq_true rfl) (Nat.le_of_ble_eq_true rfl) (by decide) ?_ rfl ho1 E2 (fun ad2 H2 locs2 ha2 o2 g2 Dd2 => ?_)
  · intro u hu; rcases List.mem_cons.mp hu with rfl | hu; exact ok_ref (by omega); (try simp only [List.mem_cons, List.not_mem_nil, or_false] at hu); (first | (rcases hu with rfl | rfl | rfl | rfl | rfl <;> exact ok_int _ _) | (rcases hu with rfl | rfl | rfl | rfl <;> exact ok_int _ _) | (rcases hu with rfl | rfl | rfl <;> exact ok_int _ _) | (rcases hu with rfl | rfl <;> exact ok_int _ _) | (subst hu; exact ok_int _ _) | (cases hu))
  · have g3 : h1.length - h.length ≤ 48 := by omega
    show cells + _ + _ ≤ 600128 ∧ 1000 * (cells + _) + 1000 * _ ≤ 7301098; omega
  have hl2 := LSt.next hl1 (ha2 0 (by omega)) (ha2 34 (by omega)) (ha2 46 (by omega))
  refine lv_icmp_eq (tgt := 1923) C.1 C.2.1 dL_law_1481 (by decide) (fun _ => ?_) (fun q => absurd rfl q)
  exact kk _ _ _ _ _ ⟨ad2, Dd2, hl2, o2, x2⟩ (by omega)
theorem law_c29 (X : LX p s m meth c b L xs) (hi : i + 6 ≤ L) (hc : cells ≤ 5000) (S : LSt D aC s b i H locs ls h) (kk : ∀ (H1 : Heap) (locs1 : List Loc) (ls1 : Array Slot) (h1 : ev_H) (cells1 : Nat), LSt D aC s b i H1 locs1 ls1 h1 → cells1 ≤ cells + 50 → W p l e room_1 s m #[Value.ref b] below meth c H1 locs1 cells1 (1000 * cells1) (lw_Z below #[Value.ref b] s) (F0 m 1923 ls1 [])) : W p l e room_1 s m #[Value.ref b] below meth c H locs cells (1000 * cells) (lw_Z below #[Value.ref b] s) (F0 m 1486 ls []) := by
  obtain ⟨ad, Dd, hl, o, x⟩ := S
  obtain ⟨C, hX, hbl, hL⟩ := id X
  obtain ⟨z1, hz1, r1⟩ : ∃ z : Int, xs (i + 1) = iI z ∧ (-2147483648 ≤ z ∧ z < 2147483648) := ⟨(xs (i + 1)).toInt, (iI_of _).symm, iI_rng _⟩
  obtain ⟨z2, hz2, r2⟩ : ∃ z : Int, xs (i + 2) = iI z ∧ (-2147483648 ≤ z ∧ z < 2147483648) := ⟨(xs (i + 2)).toInt, (iI_of _).symm, iI_rng _⟩
  obtain ⟨z3, hz3, r3⟩ : ∃ z : Int, xs (i + 3) = iI z ∧ (-2147483648 ≤ z ∧ z < 2147483648) := ⟨(xs (i + 3)).toInt, (iI_of _).symm, iI_rng _⟩
  obtain ⟨r, h1, h2, E1, E2, x2, L1, L2, fs1, ho1⟩ := s_plan (l := l) (h := h) x r1 r2 r3
  have l47 := x.len
  obtain ⟨fs0, ho0⟩ := x.o0
  refine lv_aload_n C.1 C.2.1 dL_law_1486 rfl (lv_at hl 1 rfl) ?_
  refine lw_sc (k := 1) (pc' := 1493) X Dd.2.2.2.1 (lv_at hl 0 rfl) (lv_at hl 4 rfl) (by omega) hz1 dL_law_1487 dL_law_1488 dL_law_1490 dL_law_1491 dL_law_1492 rfl ?_
  refine lw_sc (k := 2) (pc' := 1499) X Dd.2.2.2.1 (lv_at hl 0 rfl) (lv_at hl 4 rfl) (by omega) hz2 dL_law_1493 dL_law_1494 dL_law_1496 dL_law_1497 dL_law_1498 rfl ?_
  refine lw_sc (k := 3) (pc' := 1505) X Dd.2.2.2.1 (lv_at hl 0 rfl) (lv_at hl 4 rfl) (by omega) hz3 dL_law_1499 dL_law_1500 dL_law_1502 dL_law_1503 dL_law_1504 rfl ?_
  refine wc_V (ci := 5) (a := 0) (pc' := 1508) [.int (iI z1), .int (iI z2), .int (iI z3)] C Dd hl.1 o ?_ kL_143 mX5_plan dL_law_1505 rfl rfl rfl rfl (Nat.le_of_ble_eq_true rfl) (Nat.le_of_ble_eq_true rfl) (by decide) ?_ rfl ho0 E1 (fun ad1 H1 locs1 ha1 o1 g1 Dd1 => ?_)
  · intro u hu; rcases List.mem_cons.mp hu with rfl | hu; exact ok_ref (by omega); (try simp only [List.mem_cons, List.not_mem_nil, or_false] at hu); (first | (rcases hu with rfl | rfl | rfl | rfl | rfl <;> exact ok_int _ _) | (rcases hu with rfl | rfl | rfl | rfl <;> exact ok_int _ _) | (rcases hu with rfl | rfl | rfl <;> exact ok_int _ _) | (rcases hu with rfl | rfl <;> exact ok_int _ _) | (subst hu; exact ok_int _ _) | (cases hu))
  · have g1 : h1.length - h.length ≤ 48 := by omega
    show cells + _ ≤ 600128 ∧ 1000 * cells + 1000 * _ ≤ 7301098; omega
  have hl1 := LSt.next hl (ha1 0 (by omega)) (ha1 34 (by omega)) (ha1 46 (by omega))
  refine lv_aload_n C.1 C.2.1 dL_law_1508 rfl (lv_at hl1 2 rfl) ?_
  refine lw_sc (k := 1) (pc' := 1515) X Dd1.2.2.2.1 (lv_at hl1 0 rfl) (lv_at hl1 4 rfl) (by omega) hz1 dL_law_1509 dL_law_1510 dL_law_1512 dL_law_1513 dL_law_1514 rfl ?_
  refine lw_sc (k := 2) (pc' := 1521) X Dd1.2.2.2.1 (lv_at hl1 0 rfl) (lv_at hl1 4 rfl) (by omega) hz2 dL_law_1515 dL_law_1516 dL_law_1518 dL_law_1519 dL_law_1520 rfl ?_
  refine lw_sc (k := 3) (pc' := 1527) X Dd1.2.2.2.1 (lv_at hl1 0 rfl) (lv_at hl1 4 rfl) (by omega) hz3 dL_law_1521 dL_law_1522 dL_law_1524 dL_law_1525 dL_law_1526 rfl ?_
  refine wc_V (ci := 6) (a := 34) (pc' := 1530) [.int (iI z1), .int (iI z2), .int (iI z3)] C Dd1 hl.1 o1 ?_ kL_146 mX6_plan dL_law_1527 rfl rfl rfl rfl (Nat.le_of_ble_eq_true rfl) (Nat.le_of_ble_eq_true rfl) (by decide) ?_ rfl ho1 E2 (fun ad2 H2 locs2 ha2 o2 g2 Dd2 => ?_)
  · intro u hu; rcases List.mem_cons.mp hu with rfl | hu; exact ok_ref (by omega); (try simp only [List.mem_cons, List.not_mem_nil, or_false] at hu); (first | (rcases hu with rfl | rfl | rfl | rfl | rfl <;> exact ok_int _ _) | (rcases hu with rfl | rfl | rfl | rfl <;> exact ok_int _ _) | (rcases hu with rfl | rfl | rfl <;> exact ok_int _ _) | (rcases hu with rfl | rfl <;> exact ok_int _ _) | (subst hu; exact ok_int _ _) | (cases hu))
  · have g3 : h1.length - h.length ≤ 48 := by omega
    show cells + _ + _ ≤ 600128 ∧ 1000 * (cells + _) + 1000 * _ ≤ 7301098; omega
  have hl2 := LSt.next hl1 (ha2 0 (by omega)) (ha2 34 (by omega)) (ha2 46 (by omega))
  refine lv_icmp_eq (tgt := 1923) C.1 C.2.1 dL_law_1530 (by decide) (fun _ => ?_) (fun q => absurd rfl q)
  exact kk _ _ _ _ _ ⟨ad2, Dd2, hl2, o2, x2⟩ (by omega)
theorem law_c30 (X : LX p s m meth c b L xs) (hi : i + 6 ≤ L) (hc : cells ≤ 5000) (S : LSt D aC s b i H locs ls h) (kk : ∀ (H1 : Heap) (locs1 : List Loc) (ls1 : Array Slot) (h1 : ev_H) (cells1 : Nat), LSt D aC s b i H1 locs1 ls1 h1 → cells1 ≤ cells + 50 → W p l e room_1 s m #[Value.ref b] below meth c H1 locs1 cells1 (1000 * cells1) (lw_Z below #[Value.ref b] s) (F0 m 1923 ls1 [])) : W p l e room_1 s m #[Value.ref b] below meth c H locs cells (1000 * cells) (lw_Z below #[Value.ref b] s) (F0 m 1535 ls []) := by
  obtain ⟨ad, Dd, hl, o, x⟩ := S
  obtain ⟨C, hX, hbl, hL⟩ := id X
  obtain ⟨r, h1, h2, E1, E2, x2, L1, L2, fs1, ho1⟩ := s_image (l := l) (h := h) x
  have l47 := x.len
  obtain ⟨fs0, ho0⟩ := x.o0
  refine lv_aload_n C.1 C.2.1 dL_law_1535 rfl (lv_at hl 1 rfl) ?_
  refine wc_V (ci := 5) (a := 0) (pc' := 1539) [] C Dd hl.1 o ?_ kL_147 mX5_image dL_law_1536 rfl rfl rfl rfl (Nat.le_of_ble_eq_true rfl) (Nat.le_of_ble_eq_true rfl) (by decide) ?_ rfl ho0 E1 (fun ad1 H1 locs1 ha1 o1 g1 Dd1 => ?_)
  · intro u hu; rcases List.mem_cons.mp hu with rfl | hu; exact ok_ref (by omega); cases hu
  · have g1 : h1.length - h.length ≤ 48 := by omega
    show cells + _ ≤ 600128 ∧ 1000 * cells + 1000 * _ ≤ 7301098; omega
  have hl1 := LSt.next hl (ha1 0 (by omega)) (ha1 34 (by omega)) (ha1 46 (by omega))
  refine lv_aload_n C.1 C.2.1 dL_law_1539 rfl (lv_at hl1 2 rfl) ?_
  refine wc_V (ci := 6) (a := 34) (pc' := 1543) [] C Dd1 hl.1 o1 ?_ kL_151 mX6_image dL_law_1540 rfl rfl rfl rfl (Nat.le_of_ble_eq_true rfl) (Nat.le_of_ble_eq_true rfl) (by decide) ?_ rfl ho1 E2 (fun ad2 H2 locs2 ha2 o2 g2 Dd2 => ?_)
  · intro u hu; rcases List.mem_cons.mp hu with rfl | hu; exact ok_ref (by omega); cases hu
  · have g3 : h1.length - h.length ≤ 48 := by omega
    show cells + _ + _ ≤ 600128 ∧ 1000 * (cells + _) + 1000 * _ ≤ 7301098; omega
  have hl2 := LSt.next hl1 (ha2 0 (by omega)) (ha2 34 (by omega)) (ha2 46 (by omega))
  refine lv_icmp_eq (tgt := 1923) C.1 C.2.1 dL_law_1543 (by decide) (fun _ => ?_) (fun q => absurd rfl q)
  exact kk _ _ _ _ _ ⟨ad2, Dd2, hl2, o2, x2⟩ (by omega)
theorem law_c31 (X : LX p s m meth c b L xs) (hi : i + 6 ≤ L) (hc : cells ≤ 5000) (S : LSt D aC s b i H locs ls h) (kk : ∀ (H1 : Heap) (locs1 : List Loc) (ls1 : Array Slot) (h1 : ev_H) (cells1 : Nat), LSt D aC s b i H1 locs1 ls1 h1 → cells1 ≤ cells + 50 → W p l e room_1 s m #[Value.ref b] below meth c H1 locs1 cells1 (1000 * cells1) (lw_Z below #[Value.ref b] s) (F0 m 1923 ls1 [])) : W p l e room_1 s m #[Value.ref b] below meth c H locs cells (1000 * cells) (lw_Z below #[Value.ref b] s) (F0 m 1548 ls []) := by
  obtain ⟨ad, Dd, hl, o, x⟩ := S
  obtain ⟨C, hX, hbl, hL⟩ := id X
  obtain ⟨r, h1, h2, E1, E2, x2, L1, L2, fs1, ho1⟩ := s_restore (l := l) (h := h) x
  have l47 := x.len
  obtain ⟨fs0, ho0⟩ := x.o0
  refine lv_aload_n C.1 C.2.1 dL_law_1548 rfl (lv_at hl 1 rfl) ?_
  refine wc_V (ci := 5) (a := 0) (pc' := 1552) [] C Dd hl.1 o ?_ kL_152 mX5_restore dL_law_1549 rfl rfl rfl rfl (Nat.le_of_ble_eq_true rfl) (Nat.le_of_ble_eq_true rfl) (by decide) ?_ rfl ho0 E1 (fun ad1 H1 locs1 ha1 o1 g1 Dd1 => ?_)
  · intro u hu; rcases List.mem_cons.mp hu with rfl | hu; exact ok_ref (by omega); cases hu
  · have g1 : h1.length - h.length ≤ 48 := by omega
    show cells + _ ≤ 600128 ∧ 1000 * cells + 1000 * _ ≤ 7301098; omega
  have hl1 := LSt.next hl (ha1 0 (by omega)) (ha1 34 (by omega)) (ha1 46 (by omega))
  refine lv_aload_n C.1 C.2.1 dL_law_1552 rfl (lv_at hl1 2 rfl) ?_
  refine wc_V (ci := 6) (a := 34) (pc' := 1556) [] C Dd1 hl.1 o1 ?_ kL_155 mX6_restore dL_law_1553 rfl rfl rfl rfl (Nat.le_of_ble_eq_true rfl) (Nat.le_of_ble_eq_true rfl) (by decide) ?_ rfl ho1 E2 (fun ad2 H2 locs2 ha2 o2 g2 Dd2 => ?_)
  · intro u hu; rcases List.mem_cons.mp hu with rfl | hu; exact ok_ref (by omega); cases hu
  · have g3 : h1.length - h.length ≤ 48 := by omega
    show cells + _ + _ ≤ 600128 ∧ 1000 * (cells + _) + 1000 * _ ≤ 7301098; omega
  have hl2 := LSt.next hl1 (ha2 0 (by omega)) (ha2 34 (by omega)) (ha2 46 (by omega))
  refine lv_icmp_eq (tgt := 1923) C.1 C.2.1 dL_law_1556 (by decide) (fun _ => ?_) (fun q => absurd rfl q)
  exact kk _ _ _ _ _ ⟨ad2, Dd2, hl2, o2, x2⟩ (by omega)
theorem law_c32 (X : LX p s m meth c b L xs) (hi : i + 6 ≤ L) (hc : cells ≤ 5000) (S : LSt D aC s b i H locs ls h) (kk : ∀ (H1 : Heap) (locs1 : List Loc) (ls1 : Array Slot) (h1 : ev_H) (cells1 : Nat), LSt D aC s b i H1 locs1 ls1 h1 → cells1 ≤ cells + 50 → W p l e room_1 s m #[Value.ref b] below meth c H1 locs1 cells1 (1000 * cells1) (lw_Z below #[Value.ref b] s) (F0 m 1923 ls1 [])) : W p l e room_1 s m #[Value.ref b] below meth c H locs cells (1000 * cells) (lw_Z below #[Value.ref b] s) (F0 m 1561 ls []) := by
  obtain ⟨ad, Dd, hl, o, x⟩ := S
  obtain ⟨C, hX, hbl, hL⟩ := id X
  obtain ⟨z1, hz1, r1⟩ : ∃ z : Int, xs (i + 1) = iI z ∧ (-2147483648 ≤ z ∧ z < 2147483648) := ⟨(xs (i + 1)).toInt, (iI_of _).symm, iI_rng _⟩
  obtain ⟨r, h1, h2, E1, E2, x2, L1, L2, fs1, ho1⟩ := s_count (l := l) (h := h) x r1
  have l47 := x.len
  obtain ⟨fs0, ho0⟩ := x.o0
  refine lv_aload_n C.1 C.2.1 dL_law_1561 rfl (lv_at hl 1 rfl) ?_
  refine lw_sc (k := 1) (pc' := 1568) X Dd.2.2.2.1 (lv_at hl 0 rfl) (lv_at hl 4 rfl) (by omega) hz1 dL_law_1562 dL_law_1563 dL_law_1565 dL_law_1566 dL_law_1567 rfl ?_
  refine wc_V (ci := 5) (a := 0) (pc' := 1571) [.int (iI z1)] C Dd hl.1 o ?_ kL_156 mX5_count dL_law_1568 rfl rfl rfl rfl (Nat.le_of_ble_eq_true rfl) (Nat.le_of_ble_eq_true rfl) (by decide) ?_ rfl ho0 E1 (fun ad1 H1 locs1 ha1 o1 g1 Dd1 => ?_)
  · intro u hu; rcases List.mem_cons.mp hu with rfl | hu; exact ok_ref (by omega); (try simp only [List.mem_cons, List.not_mem_nil, or_false] at hu); (first | (rcases hu with rfl | rfl | rfl | rfl | rfl <;> exact ok_int _ _) | (rcases hu with rfl | rfl | rfl | rfl <;> exact ok_int _ _) | (rcases hu with rfl | rfl | rfl <;> exact ok_int _ _) | (rcases hu with rfl | rfl <;> exact ok_int _ _) | (subst hu; exact ok_int _ _) | (cases hu))
  · have g1 : h1.length - h.length ≤ 48 := by omega
    show cells + _ ≤ 600128 ∧ 1000 * cells + 1000 * _ ≤ 7301098; omega
  have hl1 := LSt.next hl (ha1 0 (by omega)) (ha1 34 (by omega)) (ha1 46 (by omega))
  refine lv_aload_n C.1 C.2.1 dL_law_1571 rfl (lv_at hl1 2 rfl) ?_
  refine lw_sc (k := 1) (pc' := 1578) X Dd1.2.2.2.1 (lv_at hl1 0 rfl) (lv_at hl1 4 rfl) (by omega) hz1 dL_law_1572 dL_law_1573 dL_law_1575 dL_law_1576 dL_law_1577 rfl ?_
  refine wc_V (ci := 6) (a := 34) (pc' := 1581) [.int (iI z1)] C Dd1 hl.1 o1 ?_ kL_159 mX6_count dL_law_1578 rfl rfl rfl rfl (Nat.le_of_ble_eq_true rfl) (Nat.le_of_ble_eq_true rfl) (by decide) ?_ rfl ho1 E2 (fun ad2 H2 locs2 ha2 o2 g2 Dd2 => ?_)
  · intro u hu; rcases List.mem_cons.mp hu with rfl | hu; exact ok_ref (by omega); (try simp only [List.mem_cons, List.not_mem_nil, or_false] at hu); (first | (rcases hu with rfl | rfl | rfl | rfl | rfl <;> exact ok_int _ _) | (rcases hu with rfl | rfl | rfl | rfl <;> exact ok_int _ _) | (rcases hu with rfl | rfl | rfl <;> exact ok_int _ _) | (rcases hu with rfl | rfl <;> exact ok_int _ _) | (subst hu; exact ok_int _ _) | (cases hu))
  · have g3 : h1.length - h.length ≤ 48 := by omega
    show cells + _ + _ ≤ 600128 ∧ 1000 * (cells + _) + 1000 * _ ≤ 7301098; omega
  have hl2 := LSt.next hl1 (ha2 0 (by omega)) (ha2 34 (by omega)) (ha2 46 (by omega))
  refine lv_icmp_eq (tgt := 1923) C.1 C.2.1 dL_law_1581 (by decide) (fun _ => ?_) (fun q => absurd rfl q)
  exact kk _ _ _ _ _ ⟨ad2, Dd2, hl2, o2, x2⟩ (by omega)
theorem law_c33 (X : LX p s m meth c b L xs) (hi : i + 6 ≤ L) (hc : cells ≤ 5000) (S : LSt D aC s b i H locs ls h) (kk : ∀ (H1 : Heap) (locs1 : List Loc) (ls1 : Array Slot) (h1 : ev_H) (cells1 : Nat), LSt D aC s b i H1 locs1 ls1 h1 → cells1 ≤ cells + 50 → W p l e room_1 s m #[Value.ref b] below meth c H1 locs1 cells1 (1000 * cells1) (lw_Z below #[Value.ref b] s) (F0 m 1923 ls1 [])) : W p l e room_1 s m #[Value.ref b] below meth c H locs cells (1000 * cells) (lw_Z below #[Value.ref b] s) (F0 m 1586 ls []) := by
  obtain ⟨ad, Dd, hl, o, x⟩ := S
  obtain ⟨C, hX, hbl, hL⟩ := id X
  obtain ⟨z1, hz1, r1⟩ : ∃ z : Int, xs (i + 1) = iI z ∧ (-2147483648 ≤ z ∧ z < 2147483648) := ⟨(xs (i + 1)).toInt, (iI_of _).symm, iI_rng _⟩
  obtain ⟨z2, hz2, r2⟩ : ∃ z : Int, xs (i + 2) = iI z ∧ (-2147483648 ≤ z ∧ z < 2147483648) := ⟨(xs (i + 2)).toInt, (iI_of _).symm, iI_rng _⟩
  obtain ⟨z3, hz3, r3⟩ : ∃ z : Int, xs (i + 3) = iI z ∧ (-2147483648 ≤ z ∧ z < 2147483648) := ⟨(xs (i + 3)).toInt, (iI_of _).symm, iI_rng _⟩
  obtain ⟨r, h1, h2, E1, E2, x2, L1, L2, fs1, ho1⟩ := s_keep (l := l) (h := h) x r1 r2 r3
  have l47 := x.len
  obtain ⟨fs0, ho0⟩ := x.o0
  refine lv_aload_n C.1 C.2.1 dL_law_1586 rfl (lv_at hl 1 rfl) ?_
  refine lw_sc (k := 1) (pc' := 1593) X Dd.2.2.2.1 (lv_at hl 0 rfl) (lv_at hl 4 rfl) (by omega) hz1 dL_law_1587 dL_law_1588 dL_law_1590 dL_law_1591 dL_law_1592 rfl ?_
  refine lw_sc (k := 2) (pc' := 1599) X Dd.2.2.2.1 (lv_at hl 0 rfl) (lv_at hl 4 rfl) (by omega) hz2 dL_law_1593 dL_law_1594 dL_law_1596 dL_law_1597 dL_law_1598 rfl ?_
  refine lw_sc (k := 3) (pc' := 1605) X Dd.2.2.2.1 (lv_at hl 0 rfl) (lv_at hl 4 rfl) (by omega) hz3 dL_law_1599 dL_law_1600 dL_law_1602 dL_law_1603 dL_law_1604 rfl ?_
  refine wc_V (ci := 5) (a := 0) (pc' := 1608) [.int (iI z1), .int (iI z2), .int (iI z3)] C Dd hl.1 o ?_ kL_160 mX5_keep dL_law_1605 rfl rfl rfl rfl (Nat.le_of_ble_eq_true rfl) (Nat.le_of_ble_eq_true rfl) (by decide) ?_ rfl ho0 E1 (fun ad1 H1 locs1 ha1 o1 g1 Dd1 => ?_)
  · intro u hu; rcases List.mem_cons.mp hu with rfl | hu; exact ok_ref (by omega); (try simp only [List.mem_cons, List.not_mem_nil, or_false] at hu); (first | (rcases hu with rfl | rfl | rfl | rfl | rfl <;> exact ok_int _ _) | (rcases hu with rfl | rfl | rfl | rfl <;> exact ok_int _ _) | (rcases hu with rfl | rfl | rfl <;> exact ok_int _ _) | (rcases hu with rfl | rfl <;> exact ok_int _ _) | (subst hu; exact ok_int _ _) | (cases hu))
  · have g1 : h1.length - h.length ≤ 48 := by omega
    show cells + _ ≤ 600128 ∧ 1000 * cells + 1000 * _ ≤ 7301098; omega
  have hl1 := LSt.next hl (ha1 0 (by omega)) (ha1 34 (by omega)) (ha1 46 (by omega))
  refine lv_aload_n C.1 C.2.1 dL_law_1608 rfl (lv_at hl1 2 rfl) ?_
  refine lw_sc (k := 1) (pc' := 1615) X Dd1.2.2.2.1 (lv_at hl1 0 rfl) (lv_at hl1 4 rfl) (by omega) hz1 dL_law_1609 dL_law_1610 dL_law_1612 dL_law_1613 dL_law_1614 rfl ?_
  refine lw_sc (k := 2) (pc' := 1621) X Dd1.2.2.2.1 (lv_at hl1 0 rfl) (lv_at hl1 4 rfl) (by omega) hz2 dL_law_1615 dL_law_1616 dL_law_1618 dL_law_1619 dL_law_1620 rfl ?_
  refine lw_sc (k := 3) (pc' := 1627) X Dd1.2.2.2.1 (lv_at hl1 0 rfl) (lv_at hl1 4 rfl) (by omega) hz3 dL_law_1621 dL_law_1622 dL_law_1624 dL_law_1625 dL_law_1626 rfl ?_
  refine wc_V (ci := 6) (a := 34) (pc' := 1630) [.int (iI z1), .int (iI z2), .int (iI z3)] C Dd1 hl.1 o1 ?_ kL_163 mX6_keep dL_law_1627 rfl rfl rfl rfl (Nat.le_of_ble_eq_true rfl) (Nat.le_of_ble_eq_true rfl) (by decide) ?_ rfl ho1 E2 (fun ad2 H2 locs2 ha2 o2 g2 Dd2 => ?_)
  · intro u hu; rcases List.mem_cons.mp hu with rfl | hu; exact ok_ref (by omega); (try simp only [List.mem_cons, List.not_mem_nil, or_false] at hu); (first | (rcases hu with rfl | rfl | rfl | rfl | rfl <;> exact ok_int _ _) | (rcases hu with rfl | rfl | rfl | rfl <;> exact ok_int _ _) | (rcases hu with rfl | rfl | rfl <;> exact ok_int _ _) | (rcases hu with rfl | rfl <;> exact ok_int _ _) | (subst hu; exact ok_int _ _) | (cases hu))
  · have g3 : h1.length - h.length ≤ 48 := by omega
    show cells + _ + _ ≤ 600128 ∧ 1000 * (cells + _) + 1000 * _ ≤ 7301098; omega
  have hl2 := LSt.next hl1 (ha2 0 (by omega)) (ha2 34 (by omega)) (ha2 46 (by omega))
  refine lv_icmp_eq (tgt := 1923) C.1 C.2.1 dL_law_1630 (by decide) (fun _ => ?_) (fun q => absurd rfl q)
  exact kk _ _ _ _ _ ⟨ad2, Dd2, hl2, o2, x2⟩ (by omega)
theorem law_c34 (X : LX p s m meth c b L xs) (hi : i + 6 ≤ L) (hc : cells ≤ 5000) (S : LSt D aC s b i H locs ls h) (kk : ∀ (H1 : Heap) (locs1 : List Loc) (ls1 : Array Slot) (h1 : ev_H) (cells1 : Nat), LSt D aC s b i H1 locs1 ls1 h1 → cells1 ≤ cells + 50 → W p l e room_1 s m #[Value.ref b] below meth c H1 locs1 cells1 (1000 * cells1) (lw_Z below #[Value.ref b] s) (F0 m 1923 ls1 [])) : W p l e room_1 s m #[Value.ref b] below meth c H locs cells (1000 * cells) (lw_Z below #[Value.ref b] s) (F0 m 1635 ls []) := by
  obtain ⟨ad, Dd, hl, o, x⟩ := S
  obtain ⟨C, hX, hbl, hL⟩ := id X
  obtain ⟨z1, hz1, r1⟩ : ∃ z : Int, xs (i + 1) = iI z ∧ (-2147483648 ≤ z ∧ z < 2147483648) := ⟨(xs (i + 1)).toInt, (iI_of _).symm, iI_rng _⟩
  obtain ⟨z2, hz2, r2⟩ : ∃ z : Int, xs (i + 2) = iI z ∧ (-2147483648 ≤ z ∧ z < 2147483648) := ⟨(xs (i + 2)).toInt, (iI_of _).symm, iI_rng _⟩
  obtain ⟨z3, hz3, r3⟩ : ∃ z : Int, xs (i + 3) = iI z ∧ (-2147483648 ≤ z ∧ z < 2147483648) := ⟨(xs (i + 3)).toInt, (iI_of _).symm, iI_rng _⟩
  obtain ⟨r, h1, h2, E1, E2, x2, L1, L2, fs1, ho1⟩ := s_row (l := l) (h := h) x r1 r2 r3
  have l47 := x.len
  obtain ⟨fs0, ho0⟩ := x.o0
  refine lv_aload_n C.1 C.2.1 dL_law_1635 rfl (lv_at hl 1 rfl) ?_
  refine lw_sc (k := 1) (pc' := 1642) X Dd.2.2.2.1 (lv_at hl 0 rfl) (lv_at hl 4 rfl) (by omega) hz1 dL_law_1636 dL_law_1637 dL_law_1639 dL_law_1640 dL_law_1641 rfl ?_
  refine lw_sc (k := 2) (pc' := 1648) X Dd.2.2.2.1 (lv_at hl 0 rfl) (lv_at hl 4 rfl) (by omega) hz2 dL_law_1642 dL_law_1643 dL_law_1645 dL_law_1646 dL_law_1647 rfl ?_
  refine lw_sc (k := 3) (pc' := 1654) X Dd.2.2.2.1 (lv_at hl 0 rfl) (lv_at hl 4 rfl) (by omega) hz3 dL_law_1648 dL_law_1649 dL_law_1651 dL_law_1652 dL_law_1653 rfl ?_
  refine wc_V (ci := 5) (a := 0) (pc' := 1657) [.int (iI z1), .int (iI z2), .int (iI z3)] C Dd hl.1 o ?_ kL_164 mX5_row dL_law_1654 rfl rfl rfl rfl (Nat.le_of_ble_eq_true rfl) (Nat.le_of_ble_eq_true rfl) (by decide) ?_ rfl ho0 E1 (fun ad1 H1 locs1 ha1 o1 g1 Dd1 => ?_)
  · intro u hu; rcases List.mem_cons.mp hu with rfl | hu; exact ok_ref (by omega); (try simp only [List.mem_cons, List.not_mem_nil, or_false] at hu); (first | (rcases hu with rfl | rfl | rfl | rfl | rfl <;> exact ok_int _ _) | (rcases hu with rfl | rfl | rfl | rfl <;> exact ok_int _ _) | (rcases hu with rfl | rfl | rfl <;> exact ok_int _ _) | (rcases hu with rfl | rfl <;> exact ok_int _ _) | (subst hu; exact ok_int _ _) | (cases hu))
  · have g1 : h1.length - h.length ≤ 48 := by omega
    show cells + _ ≤ 600128 ∧ 1000 * cells + 1000 * _ ≤ 7301098; omega
  have hl1 := LSt.next hl (ha1 0 (by omega)) (ha1 34 (by omega)) (ha1 46 (by omega))
  refine lv_aload_n C.1 C.2.1 dL_law_1657 rfl (lv_at hl1 2 rfl) ?_
  refine lw_sc (k := 1) (pc' := 1664) X Dd1.2.2.2.1 (lv_at hl1 0 rfl) (lv_at hl1 4 rfl) (by omega) hz1 dL_law_1658 dL_law_1659 dL_law_1661 dL_law_1662 dL_law_1663 rfl ?_
  refine lw_sc (k := 2) (pc' := 1670) X Dd1.2.2.2.1 (lv_at hl1 0 rfl) (lv_at hl1 4 rfl) (by omega) hz2 dL_law_1664 dL_law_1665 dL_law_1667 dL_law_1668 dL_law_1669 rfl ?_
  refine lw_sc (k := 3) (pc' := 1676) X Dd1.2.2.2.1 (lv_at hl1 0 rfl) (lv_at hl1 4 rfl) (by omega) hz3 dL_law_1670 dL_law_1671 dL_law_1673 dL_law_1674 dL_law_1675 rfl ?_
  refine wc_V (ci := 6) (a := 34) (pc' := 1679) [.int (iI z1), .int (iI z2), .int (iI z3)] C Dd1 hl.1 o1 ?_ kL_167 mX6_row dL_law_1676 rfl rfl rfl rfl (Nat.le_of_ble_eq_true rfl) (Nat.le_of_ble_eq_true rfl) (by decide) ?_ rfl ho1 E2 (fun ad2 H2 locs2 ha2 o2 g2 Dd2 => ?_)
  · intro u hu; rcases List.mem_cons.mp hu with rfl | hu; exact ok_ref (by omega); (try simp only [List.mem_cons, List.not_mem_nil, or_false] at hu); (first | (rcases hu with rfl | rfl | rfl | rfl | rfl <;> exact ok_int _ _) | (rcases hu with rfl | rfl | rfl | rfl <;> exact ok_int _ _) | (rcases hu with rfl | rfl | rfl <;> exact ok_int _ _) | (rcases hu with rfl | rfl <;> exact ok_int _ _) | (subst hu; exact ok_int _ _) | (cases hu))
  · have g3 : h1.length - h.length ≤ 48 := by omega
    show cells + _ + _ ≤ 600128 ∧ 1000 * (cells + _) + 1000 * _ ≤ 7301098; omega
  have hl2 := LSt.next hl1 (ha2 0 (by omega)) (ha2 34 (by omega)) (ha2 46 (by omega))
  refine lv_icmp_eq (tgt := 1923) C.1 C.2.1 dL_law_1679 (by decide) (fun _ => ?_) (fun q => absurd rfl q)
  exact kk _ _ _ _ _ ⟨ad2, Dd2, hl2, o2, x2⟩ (by omega)
theorem law_c35 (X : LX p s m meth c b L xs) (hi : i + 6 ≤ L) (hc : cells ≤ 5000) (S : LSt D aC s b i H locs ls h) (kk : ∀ (H1 : Heap) (locs1 : List Loc) (ls1 : Array Slot) (h1 : ev_H) (cells1 : Nat), LSt D aC s b i H1 locs1 ls1 h1 → cells1 ≤ cells + 50 → W p l e room_1 s m #[Value.ref b] below meth c H1 locs1 cells1 (1000 * cells1) (lw_Z below #[Value.ref b] s) (F0 m 1923 ls1 [])) : W p l e room_1 s m #[Value.ref b] below meth c H locs cells (1000 * cells) (lw_Z below #[Value.ref b] s) (F0 m 1684 ls []) := by
  obtain ⟨ad, Dd, hl, o, x⟩ := S
  obtain ⟨C, hX, hbl, hL⟩ := id X
  obtain ⟨z1, hz1, r1⟩ : ∃ z : Int, xs (i + 1) = iI z ∧ (-2147483648 ≤ z ∧ z < 2147483648) := ⟨(xs (i + 1)).toInt, (iI_of _).symm, iI_rng _⟩
  obtain ⟨z2, hz2, r2⟩ : ∃ z : Int, xs (i + 2) = iI z ∧ (-2147483648 ≤ z ∧ z < 2147483648) := ⟨(xs (i + 2)).toInt, (iI_of _).symm, iI_rng _⟩
  obtain ⟨z3, hz3, r3⟩ : ∃ z : Int, xs (i + 3) = iI z ∧ (-2147483648 ≤ z ∧ z < 2147483648) := ⟨(xs (i + 3)).toInt, (iI_of _).symm, iI_rng _⟩
  obtain ⟨r, h1, h2, E1, E2, x2, L1, L2, fs1, ho1⟩ := s_put (l := l) (h := h) x r1 r2 r3
  have l47 := x.len
  obtain ⟨fs0, ho0⟩ := x.o0
  refine lv_aload_n C.1 C.2.1 dL_law_1684 rfl (lv_at hl 1 rfl) ?_
  refine lw_sc (k := 1) (pc' := 1691) X Dd.2.2.2.1 (lv_at hl 0 rfl) (lv_at hl 4 rfl) (by omega) hz1 dL_law_1685 dL_law_1686 dL_law_1688 dL_law_1689 dL_law_1690 rfl ?_
  refine lw_sc (k := 2) (pc' := 1697) X Dd.2.2.2.1 (lv_at hl 0 rfl) (lv_at hl 4 rfl) (by omega) hz2 dL_law_1691 dL_law_1692 dL_law_1694 dL_law_1695 dL_law_1696 rfl ?_
  refine lw_sc (k := 3) (pc' := 1703) X Dd.2.2.2.1 (lv_at hl 0 rfl) (lv_at hl 4 rfl) (by omega) hz3 dL_law_1697 dL_law_1698 dL_law_1700 dL_law_1701 dL_law_1702 rfl ?_
  refine wc_V (ci := 5) (a := 0) (pc' := 1706) [.int (iI z1), .int (iI z2), .int (iI z3)] C Dd hl.1 o ?_ kL_168 mX5_put dL_law_1703 rfl rfl rfl rfl (Nat.le_of_ble_eq_true rfl) (Nat.le_of_ble_eq_true rfl) (by decide) ?_ rfl ho0 E1 (fun ad1 H1 locs1 ha1 o1 g1 Dd1 => ?_)
  · intro u hu; rcases List.mem_cons.mp hu with rfl | hu; exact ok_ref (by omega); (try simp only [List.mem_cons, List.not_mem_nil, or_false] at hu); (first | (rcases hu with rfl | rfl | rfl | rfl | rfl <;> exact ok_int _ _) | (rcases hu with rfl | rfl | rfl | rfl <;> exact ok_int _ _) | (rcases hu with rfl | rfl | rfl <;> exact ok_int _ _) | (rcases hu with rfl | rfl <;> exact ok_int _ _) | (subst hu; exact ok_int _ _) | (cases hu))
  · have g1 : h1.length - h.length ≤ 48 := by omega
    show cells + _ ≤ 600128 ∧ 1000 * cells + 1000 * _ ≤ 7301098; omega
  have hl1 := LSt.next hl (ha1 0 (by omega)) (ha1 34 (by omega)) (ha1 46 (by omega))
  refine lv_aload_n C.1 C.2.1 dL_law_1706 rfl (lv_at hl1 2 rfl) ?_
  refine lw_sc (k := 1) (pc' := 1713) X Dd1.2.2.2.1 (lv_at hl1 0 rfl) (lv_at hl1 4 rfl) (by omega) hz1 dL_law_1707 dL_law_1708 dL_law_1710 dL_law_1711 dL_law_1712 rfl ?_
  refine lw_sc (k := 2) (pc' := 1719) X Dd1.2.2.2.1 (lv_at hl1 0 rfl) (lv_at hl1 4 rfl) (by omega) hz2 dL_law_1713 dL_law_1714 dL_law_1716 dL_law_1717 dL_law_1718 rfl ?_
  refine lw_sc (k := 3) (pc' := 1725) X Dd1.2.2.2.1 (lv_at hl1 0 rfl) (lv_at hl1 4 rfl) (by omega) hz3 dL_law_1719 dL_law_1720 dL_law_1722 dL_law_1723 dL_law_1724 rfl ?_
  refine wc_V (ci := 6) (a := 34) (pc' := 1728) [.int (iI z1), .int (iI z2), .int (iI z3)] C Dd1 hl.1 o1 ?_ kL_171 mX6_put dL_law_1725 rfl rfl rfl rfl (Nat.le_of_ble_eq_true rfl) (Nat.le_of_ble_eq_true rfl) (by decide) ?_ rfl ho1 E2 (fun ad2 H2 locs2 ha2 o2 g2 Dd2 => ?_)
  · intro u hu; rcases List.mem_cons.mp hu with rfl | hu; exact ok_ref (by omega); (try simp only [List.mem_cons, List.not_mem_nil, or_false] at hu); (first | (rcases hu with rfl | rfl | rfl | rfl | rfl <;> exact ok_int _ _) | (rcases hu with rfl | rfl | rfl | rfl <;> exact ok_int _ _) | (rcases hu with rfl | rfl | rfl <;> exact ok_int _ _) | (rcases hu with rfl | rfl <;> exact ok_int _ _) | (subst hu; exact ok_int _ _) | (cases hu))
  · have g3 : h1.length - h.length ≤ 48 := by omega
    show cells + _ + _ ≤ 600128 ∧ 1000 * (cells + _) + 1000 * _ ≤ 7301098; omega
  have hl2 := LSt.next hl1 (ha2 0 (by omega)) (ha2 34 (by omega)) (ha2 46 (by omega))
  refine lv_icmp_eq (tgt := 1923) C.1 C.2.1 dL_law_1728 (by decide) (fun _ => ?_) (fun q => absurd rfl q)
  exact kk _ _ _ _ _ ⟨ad2, Dd2, hl2, o2, x2⟩ (by omega)
theorem law_c37 (X : LX p s m meth c b L xs) (hi : i + 6 ≤ L) (hc : cells ≤ 5000) (S : LSt D aC s b i H locs ls h) (kk : ∀ (H1 : Heap) (locs1 : List Loc) (ls1 : Array Slot) (h1 : ev_H) (cells1 : Nat), LSt D aC s b i H1 locs1 ls1 h1 → cells1 ≤ cells + 50 → W p l e room_1 s m #[Value.ref b] below meth c H1 locs1 cells1 (1000 * cells1) (lw_Z below #[Value.ref b] s) (F0 m 1923 ls1 [])) : W p l e room_1 s m #[Value.ref b] below meth c H locs cells (1000 * cells) (lw_Z below #[Value.ref b] s) (F0 m 1800 ls []) := by
  obtain ⟨ad, Dd, hl, o, x⟩ := S
  obtain ⟨C, hX, hbl, hL⟩ := id X
  obtain ⟨z1, hz1, r1⟩ : ∃ z : Int, xs (i + 1) = iI z ∧ (-2147483648 ≤ z ∧ z < 2147483648) := ⟨(xs (i + 1)).toInt, (iI_of _).symm, iI_rng _⟩
  obtain ⟨z2, hz2, r2⟩ : ∃ z : Int, xs (i + 2) = iI z ∧ (-2147483648 ≤ z ∧ z < 2147483648) := ⟨(xs (i + 2)).toInt, (iI_of _).symm, iI_rng _⟩
  obtain ⟨z3, hz3, r3⟩ : ∃ z : Int, xs (i + 3) = iI z ∧ (-2147483648 ≤ z ∧ z < 2147483648) := ⟨(xs (i + 3)).toInt, (iI_of _).symm, iI_rng _⟩
  obtain ⟨z4, hz4, r4⟩ : ∃ z : Int, xs (i + 4) = iI z ∧ (-2147483648 ≤ z ∧ z < 2147483648) := ⟨(xs (i + 4)).toInt, (iI_of _).symm, iI_rng _⟩
  obtain ⟨z5, hz5, r5⟩ : ∃ z : Int, xs (i + 5) = iI z ∧ (-2147483648 ≤ z ∧ z < 2147483648) := ⟨(xs (i + 5)).toInt, (iI_of _).symm, iI_rng _⟩
  obtain ⟨r, h1, h2, E1, E2, x2, L1, L2, fs1, ho1⟩ := s_copy (l := l) (h := h) x r1 r2 r3 r4 r5
  have l47 := x.len
  obtain ⟨fs0, ho0⟩ := x.o0
  refine lv_aload_n C.1 C.2.1 dL_law_1800 rfl (lv_at hl 1 rfl) ?_
  refine lw_sc (k := 1) (pc' := 1807) X Dd.2.2.2.1 (lv_at hl 0 rfl) (lv_at hl 4 rfl) (by omega) hz1 dL_law_1801 dL_law_1802 dL_law_1804 dL_law_1805 dL_law_1806 rfl ?_
  refine lw_sc (k := 2) (pc' := 1813) X Dd.2.2.2.1 (lv_at hl 0 rfl) (lv_at hl 4 rfl) (by omega) hz2 dL_law_1807 dL_law_1808 dL_law_1810 dL_law_1811 dL_law_1812 rfl ?_
  refine lw_sc (k := 3) (pc' := 1819) X Dd.2.2.2.1 (lv_at hl 0 rfl) (lv_at hl 4 rfl) (by omega) hz3 dL_law_1813 dL_law_1814 dL_law_1816 dL_law_1817 dL_law_1818 rfl ?_
  refine lw_sc (k := 4) (pc' := 1825) X Dd.2.2.2.1 (lv_at hl 0 rfl) (lv_at hl 4 rfl) (by omega) hz4 dL_law_1819 dL_law_1820 dL_law_1822 dL_law_1823 dL_law_1824 rfl ?_
  refine lw_sc (k := 5) (pc' := 1831) X Dd.2.2.2.1 (lv_at hl 0 rfl) (lv_at hl 4 rfl) (by omega) hz5 dL_law_1825 dL_law_1826 dL_law_1828 dL_law_1829 dL_law_1830 rfl ?_
  refine wc_V (ci := 5) (a := 0) (pc' := 1834) [.int (iI z1), .int (iI z2), .int (iI z3), .int (iI z4), .int (iI z5)] C Dd hl.1 o ?_ kL_181 mX5_copy dL_law_1831 rfl rfl rfl rfl (Nat.le_of_ble_eq_true rfl) (Nat.le_of_ble_eq_true rfl) (by decide) ?_ rfl ho0 E1 (fun ad1 H1 locs1 ha1 o1 g1 Dd1 => ?_)
  · intro u hu; rcases List.mem_cons.mp hu with rfl | hu; exact ok_ref (by omega); (try simp only [List.mem_cons, List.not_mem_nil, or_false] at hu); (first | (rcases hu with rfl | rfl | rfl | rfl | rfl <;> exact ok_int _ _) | (rcases hu with rfl | rfl | rfl | rfl <;> exact ok_int _ _) | (rcases hu with rfl | rfl | rfl <;> exact ok_int _ _) | (rcases hu with rfl | rfl <;> exact ok_int _ _) | (subst hu; exact ok_int _ _) | (cases hu))
  · have g1 : h1.length - h.length ≤ 48 := by omega
    show cells + _ ≤ 600128 ∧ 1000 * cells + 1000 * _ ≤ 7301098; omega
  have hl1 := LSt.next hl (ha1 0 (by omega)) (ha1 34 (by omega)) (ha1 46 (by omega))
  refine lv_aload_n C.1 C.2.1 dL_law_1834 rfl (lv_at hl1 2 rfl) ?_
  refine lw_sc (k := 1) (pc' := 1841) X Dd1.2.2.2.1 (lv_at hl1 0 rfl) (lv_at hl1 4 rfl) (by omega) hz1 dL_law_1835 dL_law_1836 dL_law_1838 dL_law_1839 dL_law_1840 rfl ?_
  refine lw_sc (k := 2) (pc' := 1847) X Dd1.2.2.2.1 (lv_at hl1 0 rfl) (lv_at hl1 4 rfl) (by omega) hz2 dL_law_1841 dL_law_1842 dL_law_1844 dL_law_1845 dL_law_1846 rfl ?_
  refine lw_sc (k := 3) (pc' := 1853) X Dd1.2.2.2.1 (lv_at hl1 0 rfl) (lv_at hl1 4 rfl) (by omega) hz3 dL_law_1847 dL_law_1848 dL_law_1850 dL_law_1851 dL_law_1852 rfl ?_
  refine lw_sc (k := 4) (pc' := 1859) X Dd1.2.2.2.1 (lv_at hl1 0 rfl) (lv_at hl1 4 rfl) (by omega) hz4 dL_law_1853 dL_law_1854 dL_law_1856 dL_law_1857 dL_law_1858 rfl ?_
  refine lw_sc (k := 5) (pc' := 1865) X Dd1.2.2.2.1 (lv_at hl1 0 rfl) (lv_at hl1 4 rfl) (by omega) hz5 dL_law_1859 dL_law_1860 dL_law_1862 dL_law_1863 dL_law_1864 rfl ?_
  refine wc_V (ci := 6) (a := 34) (pc' := 1868) [.int (iI z1), .int (iI z2), .int (iI z3), .int (iI z4), .int (iI z5)] C Dd1 hl.1 o1 ?_ kL_185 mX6_copy dL_law_1865 rfl rfl rfl rfl (Nat.le_of_ble_eq_true rfl) (Nat.le_of_ble_eq_true rfl) (by decide) ?_ rfl ho1 E2 (fun ad2 H2 locs2 ha2 o2 g2 Dd2 => ?_)
  · intro u hu; rcases List.mem_cons.mp hu with rfl | hu; exact ok_ref (by omega); (try simp only [List.mem_cons, List.not_mem_nil, or_false] at hu); (first | (rcases hu with rfl | rfl | rfl | rfl | rfl <;> exact ok_int _ _) | (rcases hu with rfl | rfl | rfl | rfl <;> exact ok_int _ _) | (rcases hu with rfl | rfl | rfl <;> exact ok_int _ _) | (rcases hu with rfl | rfl <;> exact ok_int _ _) | (subst hu; exact ok_int _ _) | (cases hu))
  · have g3 : h1.length - h.length ≤ 48 := by omega
    show cells + _ + _ ≤ 600128 ∧ 1000 * (cells + _) + 1000 * _ ≤ 7301098; omega
  have hl2 := LSt.next hl1 (ha2 0 (by omega)) (ha2 34 (by omega)) (ha2 46 (by omega))
  refine lv_icmp_eq (tgt := 1923) C.1 C.2.1 dL_law_1868 (by decide) (fun _ => ?_) (fun q => absurd rfl q)
  exact kk _ _ _ _ _ ⟨ad2, Dd2, hl2, o2, x2⟩ (by omega)
theorem law_c38 (X : LX p s m meth c b L xs) (hi : i + 6 ≤ L) (hc : cells ≤ 5000) (S : LSt D aC s b i H locs ls h) (kk : ∀ (H1 : Heap) (locs1 : List Loc) (ls1 : Array Slot) (h1 : ev_H) (cells1 : Nat), LSt D aC s b i H1 locs1 ls1 h1 → cells1 ≤ cells + 50 → W p l e room_1 s m #[Value.ref b] below meth c H1 locs1 cells1 (1000 * cells1) (lw_Z below #[Value.ref b] s) (F0 m 1923 ls1 [])) : W p l e room_1 s m #[Value.ref b] below meth c H locs cells (1000 * cells) (lw_Z below #[Value.ref b] s) (F0 m 1873 ls []) := by
  obtain ⟨ad, Dd, hl, o, x⟩ := S
  obtain ⟨C, hX, hbl, hL⟩ := id X
  obtain ⟨z1, hz1, r1⟩ : ∃ z : Int, xs (i + 1) = iI z ∧ (-2147483648 ≤ z ∧ z < 2147483648) := ⟨(xs (i + 1)).toInt, (iI_of _).symm, iI_rng _⟩
  obtain ⟨r, h1, h2, E1, E2, x2, L1, L2, fs1, ho1⟩ := s_weight (l := l) (h := h) x r1
  have l47 := x.len
  obtain ⟨fs0, ho0⟩ := x.o0
  refine lv_aload_n C.1 C.2.1 dL_law_1873 rfl (lv_at hl 1 rfl) ?_
  refine lw_sc (k := 1) (pc' := 1880) X Dd.2.2.2.1 (lv_at hl 0 rfl) (lv_at hl 4 rfl) (by omega) hz1 dL_law_1874 dL_law_1875 dL_law_1877 dL_law_1878 dL_law_1879 rfl ?_
  refine wc_V (ci := 5) (a := 0) (pc' := 1883) [.int (iI z1)] C Dd hl.1 o ?_ kL_186 mX5_weight dL_law_1880 rfl rfl rfl rfl (Nat.le_of_ble_eq_true rfl) (Nat.le_of_ble_eq_true rfl) (by decide) ?_ rfl ho0 E1 (fun ad1 H1 locs1 ha1 o1 g1 Dd1 => ?_)
  · intro u hu; rcases List.mem_cons.mp hu with rfl | hu; exact ok_ref (by omega); (try simp only [List.mem_cons, List.not_mem_nil, or_false] at hu); (first | (rcases hu with rfl | rfl | rfl | rfl | rfl <;> exact ok_int _ _) | (rcases hu with rfl | rfl | rfl | rfl <;> exact ok_int _ _) | (rcases hu with rfl | rfl | rfl <;> exact ok_int _ _) | (rcases hu with rfl | rfl <;> exact ok_int _ _) | (subst hu; exact ok_int _ _) | (cases hu))
  · have g1 : h1.length - h.length ≤ 48 := by omega
    show cells + _ ≤ 600128 ∧ 1000 * cells + 1000 * _ ≤ 7301098; omega
  have hl1 := LSt.next hl (ha1 0 (by omega)) (ha1 34 (by omega)) (ha1 46 (by omega))
  refine lv_aload_n C.1 C.2.1 dL_law_1883 rfl (lv_at hl1 2 rfl) ?_
  refine lw_sc (k := 1) (pc' := 1890) X Dd1.2.2.2.1 (lv_at hl1 0 rfl) (lv_at hl1 4 rfl) (by omega) hz1 dL_law_1884 dL_law_1885 dL_law_1887 dL_law_1888 dL_law_1889 rfl ?_
  refine wc_V (ci := 6) (a := 34) (pc' := 1893) [.int (iI z1)] C Dd1 hl.1 o1 ?_ kL_189 mX6_weight dL_law_1890 rfl rfl rfl rfl (Nat.le_of_ble_eq_true rfl) (Nat.le_of_ble_eq_true rfl) (by decide) ?_ rfl ho1 E2 (fun ad2 H2 locs2 ha2 o2 g2 Dd2 => ?_)
  · intro u hu; rcases List.mem_cons.mp hu with rfl | hu; exact ok_ref (by omega); (try simp only [List.mem_cons, List.not_mem_nil, or_false] at hu); (first | (rcases hu with rfl | rfl | rfl | rfl | rfl <;> exact ok_int _ _) | (rcases hu with rfl | rfl | rfl | rfl <;> exact ok_int _ _) | (rcases hu with rfl | rfl | rfl <;> exact ok_int _ _) | (rcases hu with rfl | rfl <;> exact ok_int _ _) | (subst hu; exact ok_int _ _) | (cases hu))
  · have g3 : h1.length - h.length ≤ 48 := by omega
    show cells + _ + _ ≤ 600128 ∧ 1000 * (cells + _) + 1000 * _ ≤ 7301098; omega
  have hl2 := LSt.next hl1 (ha2 0 (by omega)) (ha2 34 (by omega)) (ha2 46 (by omega))
  refine lv_icmp_eq (tgt := 1923) C.1 C.2.1 dL_law_1893 (by decide) (fun _ => ?_) (fun q => absurd rfl q)
  exact kk _ _ _ _ _ ⟨ad2, Dd2, hl2, o2, x2⟩ (by omega)
end DE
