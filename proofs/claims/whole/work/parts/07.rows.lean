section ER
variable {l : Launch} {d : Nat} {own nm : String} {cc : ByteArray} {nL : Nat} {ret : Option FieldType} {pc pc' : Nat} {lc : ev_L} {st : List Value} {h h' : ev_H} {v : Option Value}
theorem ok_s.tl {a : Value} (o : ok_s h lc (a :: st)) : ok_s h lc st := ⟨o.1, o.2.1, fun v hv => o.2.2 v (List.mem_cons_of_mem _ hv)⟩
theorem ok_s.hd {a : Value} (o : ok_s h lc (a :: st)) : ok_v h.length a := o.2.2 a List.mem_cons_self
theorem ok_s.cs {a : Value} (o : ok_s h lc st) (ha : ok_v h.length a) : ok_s h lc (a :: st) := ⟨o.1, o.2.1, fun v hv => (List.mem_cons.mp hv).elim (fun e => e ▸ ha) (o.2.2 v)⟩
theorem ev_pure {st' : List Value} (hok : ok_s h lc st → ok_s h lc st')
    (hW : ∀ (p : Program) (e : Env) (R : Room) (s : State) (m : MethodId) (args : Array Value) (below : List Frame) (meth : Method) (c : Code) (H : Heap) (locs : List Loc) (cells : Nat) (Q : State → Prop) (ls : Array Slot) (ad : Nat → Nat), ev_C p s m args meth c own nm cc nL ret → ev_h ad ls nL lc → W p l e R s m args below meth c H locs cells (1000 * cells) Q (F0 m pc' ls (st'.map (ev_v ad))) → W p l e R s m args below meth c H locs cells (1000 * cells) Q (F0 m pc ls (st.map (ev_v ad))))
    (k : Ev l d own nm cc nL ret pc' lc st' h v h') : Ev l d own nm cc nL ret pc lc st h v h' := by
  intro o
  obtain ⟨k1, k2, k3, k4⟩ := k (hok o)
  exact ⟨k1, k2, k3, fun p e R s m args below meth c H locs cells mc ls D aC ad A C Dd hl h1 h2 h3 h4 h5 => hW p e R s m args below meth c H locs cells _ ls ad C hl (k4 p e R s m args below meth c H locs cells mc ls D aC ad A C Dd hl h1 h2 h3 h4 h5)⟩
theorem ev_iadd {x y : Int32} (hd : decode cc pc = .ok (.iadd, 1)) (hp : pc + 1 = pc') (k : Ev l d own nm cc nL ret pc' lc (.int (x + y) :: st) h v h') : Ev l d own nm cc nL ret pc lc (.int y :: .int x :: st) h v h' := by
  subst hp
  exact ev_pure (fun o => o.tl.tl.cs (ok_int _ _)) (fun p e R s m args below meth c H locs cells Q ls ad C hl w => lv_iadd C.1 C.2.1 hd w) k
theorem ev_isub {x y : Int32} (hd : decode cc pc = .ok (.isub, 1)) (hp : pc + 1 = pc') (k : Ev l d own nm cc nL ret pc' lc (.int (x - y) :: st) h v h') : Ev l d own nm cc nL ret pc lc (.int y :: .int x :: st) h v h' := by
  subst hp
  exact ev_pure (fun o => o.tl.tl.cs (ok_int _ _)) (fun p e R s m args below meth c H locs cells Q ls ad C hl w => lv_isub C.1 C.2.1 hd w) k
theorem ev_imul {x y : Int32} (hd : decode cc pc = .ok (.imul, 1)) (hp : pc + 1 = pc') (k : Ev l d own nm cc nL ret pc' lc (.int (x * y) :: st) h v h') : Ev l d own nm cc nL ret pc lc (.int y :: .int x :: st) h v h' := by
  subst hp
  exact ev_pure (fun o => o.tl.tl.cs (ok_int _ _)) (fun p e R s m args below meth c H locs cells Q ls ad C hl w => lv_imul C.1 C.2.1 hd w) k
theorem ev_iand {x y : Int32} (hd : decode cc pc = .ok (.iand, 1)) (hp : pc + 1 = pc') (k : Ev l d own nm cc nL ret pc' lc (.int (x &&& y) :: st) h v h') : Ev l d own nm cc nL ret pc lc (.int y :: .int x :: st) h v h' := by
  subst hp
  exact ev_pure (fun o => o.tl.tl.cs (ok_int _ _)) (fun p e R s m args below meth c H locs cells Q ls ad C hl w => lv_iand C.1 C.2.1 hd w) k
theorem ev_ior {x y : Int32} (hd : decode cc pc = .ok (.ior, 1)) (hp : pc + 1 = pc') (k : Ev l d own nm cc nL ret pc' lc (.int (x ||| y) :: st) h v h') : Ev l d own nm cc nL ret pc lc (.int y :: .int x :: st) h v h' := by
  subst hp
  exact ev_pure (fun o => o.tl.tl.cs (ok_int _ _)) (fun p e R s m args below meth c H locs cells Q ls ad C hl w => lv_ior C.1 C.2.1 hd w) k
theorem ev_ixor {x y : Int32} (hd : decode cc pc = .ok (.ixor, 1)) (hp : pc + 1 = pc') (k : Ev l d own nm cc nL ret pc' lc (.int (x ^^^ y) :: st) h v h') : Ev l d own nm cc nL ret pc lc (.int y :: .int x :: st) h v h' := by
  subst hp
  exact ev_pure (fun o => o.tl.tl.cs (ok_int _ _)) (fun p e R s m args below meth c H locs cells Q ls ad C hl w => lv_ixor C.1 C.2.1 hd w) k
theorem ev_ishl {x y : Int32} (hd : decode cc pc = .ok (.ishl, 1)) (hp : pc + 1 = pc') (k : Ev l d own nm cc nL ret pc' lc (.int (x <<< (y &&& 31)) :: st) h v h') : Ev l d own nm cc nL ret pc lc (.int y :: .int x :: st) h v h' := by
  subst hp
  exact ev_pure (fun o => o.tl.tl.cs (ok_int _ _)) (fun p e R s m args below meth c H locs cells Q ls ad C hl w => lv_ishl C.1 C.2.1 hd w) k
theorem ev_ishr {x y : Int32} (hd : decode cc pc = .ok (.ishr, 1)) (hp : pc + 1 = pc') (k : Ev l d own nm cc nL ret pc' lc (.int (x >>> (y &&& 31)) :: st) h v h') : Ev l d own nm cc nL ret pc lc (.int y :: .int x :: st) h v h' := by
  subst hp
  exact ev_pure (fun o => o.tl.tl.cs (ok_int _ _)) (fun p e R s m args below meth c H locs cells Q ls ad C hl w => lv_ishr C.1 C.2.1 hd w) k
theorem ev_idiv {x y : Int32} (hd : decode cc pc = .ok (.idiv, 1)) (hp : pc + 1 = pc') (hne : ¬ y = 0) (k : Ev l d own nm cc nL ret pc' lc (.int (x / y) :: st) h v h') : Ev l d own nm cc nL ret pc lc (.int y :: .int x :: st) h v h' := by
  subst hp
  exact ev_pure (fun o => o.tl.tl.cs (ok_int _ _)) (fun p e R s m args below meth c H locs cells Q ls ad C hl w => lv_idiv C.1 C.2.1 hd hne w) k
theorem ev_irem {x y : Int32} (hd : decode cc pc = .ok (.irem, 1)) (hp : pc + 1 = pc') (hne : ¬ y = 0) (k : Ev l d own nm cc nL ret pc' lc (.int (x - x / y * y) :: st) h v h') : Ev l d own nm cc nL ret pc lc (.int y :: .int x :: st) h v h' := by
  subst hp
  exact ev_pure (fun o => o.tl.tl.cs (ok_int _ _)) (fun p e R s m args below meth c H locs cells Q ls ad C hl w => lv_irem C.1 C.2.1 hd hne w) k
theorem ev_ladd {x y : Int64} (hd : decode cc pc = .ok (.ladd, 1)) (hp : pc + 1 = pc') (k : Ev l d own nm cc nL ret pc' lc (.long (x + y) :: st) h v h') : Ev l d own nm cc nL ret pc lc (.long y :: .long x :: st) h v h' := by
  subst hp
  exact ev_pure (fun o => o.tl.tl.cs (ok_long _ _)) (fun p e R s m args below meth c H locs cells Q ls ad C hl w => lv_ladd C.1 C.2.1 hd w) k
theorem ev_lsub {x y : Int64} (hd : decode cc pc = .ok (.lsub, 1)) (hp : pc + 1 = pc') (k : Ev l d own nm cc nL ret pc' lc (.long (x - y) :: st) h v h') : Ev l d own nm cc nL ret pc lc (.long y :: .long x :: st) h v h' := by
  subst hp
  exact ev_pure (fun o => o.tl.tl.cs (ok_long _ _)) (fun p e R s m args below meth c H locs cells Q ls ad C hl w => lv_lsub C.1 C.2.1 hd w) k
theorem ev_lmul {x y : Int64} (hd : decode cc pc = .ok (.lmul, 1)) (hp : pc + 1 = pc') (k : Ev l d own nm cc nL ret pc' lc (.long (x * y) :: st) h v h') : Ev l d own nm cc nL ret pc lc (.long y :: .long x :: st) h v h' := by
  subst hp
  exact ev_pure (fun o => o.tl.tl.cs (ok_long _ _)) (fun p e R s m args below meth c H locs cells Q ls ad C hl w => lv_lmul C.1 C.2.1 hd w) k
theorem ev_land {x y : Int64} (hd : decode cc pc = .ok (.land, 1)) (hp : pc + 1 = pc') (k : Ev l d own nm cc nL ret pc' lc (.long (x &&& y) :: st) h v h') : Ev l d own nm cc nL ret pc lc (.long y :: .long x :: st) h v h' := by
  subst hp
  exact ev_pure (fun o => o.tl.tl.cs (ok_long _ _)) (fun p e R s m args below meth c H locs cells Q ls ad C hl w => lv_land C.1 C.2.1 hd w) k
theorem ev_lor {x y : Int64} (hd : decode cc pc = .ok (.lor, 1)) (hp : pc + 1 = pc') (k : Ev l d own nm cc nL ret pc' lc (.long (x ||| y) :: st) h v h') : Ev l d own nm cc nL ret pc lc (.long y :: .long x :: st) h v h' := by
  subst hp
  exact ev_pure (fun o => o.tl.tl.cs (ok_long _ _)) (fun p e R s m args below meth c H locs cells Q ls ad C hl w => lv_lor C.1 C.2.1 hd w) k
theorem ev_lxor {x y : Int64} (hd : decode cc pc = .ok (.lxor, 1)) (hp : pc + 1 = pc') (k : Ev l d own nm cc nL ret pc' lc (.long (x ^^^ y) :: st) h v h') : Ev l d own nm cc nL ret pc lc (.long y :: .long x :: st) h v h' := by
  subst hp
  exact ev_pure (fun o => o.tl.tl.cs (ok_long _ _)) (fun p e R s m args below meth c H locs cells Q ls ad C hl w => lv_lxor C.1 C.2.1 hd w) k
theorem ev_ldiv {x y : Int64} (hd : decode cc pc = .ok (.ldiv, 1)) (hp : pc + 1 = pc') (hne : ¬ y = 0) (k : Ev l d own nm cc nL ret pc' lc (.long (x / y) :: st) h v h') : Ev l d own nm cc nL ret pc lc (.long y :: .long x :: st) h v h' := by
  subst hp
  exact ev_pure (fun o => o.tl.tl.cs (ok_long _ _)) (fun p e R s m args below meth c H locs cells Q ls ad C hl w => lv_ldiv C.1 C.2.1 hd hne w) k
theorem ev_lrem {x y : Int64} (hd : decode cc pc = .ok (.lrem, 1)) (hp : pc + 1 = pc') (hne : ¬ y = 0) (k : Ev l d own nm cc nL ret pc' lc (.long (x - x / y * y) :: st) h v h') : Ev l d own nm cc nL ret pc lc (.long y :: .long x :: st) h v h' := by
  subst hp
  exact ev_pure (fun o => o.tl.tl.cs (ok_long _ _)) (fun p e R s m args below meth c H locs cells Q ls ad C hl w => lv_lrem C.1 C.2.1 hd hne w) k
theorem ev_ineg {x : Int32} (hd : decode cc pc = .ok (.ineg, 1)) (hp : pc + 1 = pc') (k : Ev l d own nm cc nL ret pc' lc (.int (-x) :: st) h v h') : Ev l d own nm cc nL ret pc lc (.int x :: st) h v h' := by
  subst hp
  exact ev_pure (fun o => o.tl.cs (ok_int _ _)) (fun p e R s m args below meth c H locs cells Q ls ad C hl w => lv_ineg C.1 C.2.1 hd w) k
theorem ev_lneg {x : Int64} (hd : decode cc pc = .ok (.lneg, 1)) (hp : pc + 1 = pc') (k : Ev l d own nm cc nL ret pc' lc (.long (-x) :: st) h v h') : Ev l d own nm cc nL ret pc lc (.long x :: st) h v h' := by
  subst hp
  exact ev_pure (fun o => o.tl.cs (ok_long _ _)) (fun p e R s m args below meth c H locs cells Q ls ad C hl w => lv_lneg C.1 C.2.1 hd w) k
theorem ev_i2l {x : Int32} (hd : decode cc pc = .ok (.i2l, 1)) (hp : pc + 1 = pc') (k : Ev l d own nm cc nL ret pc' lc (.long (x.toInt64) :: st) h v h') : Ev l d own nm cc nL ret pc lc (.int x :: st) h v h' := by
  subst hp
  exact ev_pure (fun o => o.tl.cs (ok_long _ _)) (fun p e R s m args below meth c H locs cells Q ls ad C hl w => lv_i2l C.1 C.2.1 hd rfl w) k
theorem ev_l2i {x : Int64} (hd : decode cc pc = .ok (.l2i, 1)) (hp : pc + 1 = pc') (k : Ev l d own nm cc nL ret pc' lc (.int (x.toInt32) :: st) h v h') : Ev l d own nm cc nL ret pc lc (.long x :: st) h v h' := by
  subst hp
  exact ev_pure (fun o => o.tl.cs (ok_int _ _)) (fun p e R s m args below meth c H locs cells Q ls ad C hl w => lv_l2i C.1 C.2.1 hd rfl w) k
theorem ev_i2b {x : Int32} (hd : decode cc pc = .ok (.i2b, 1)) (hp : pc + 1 = pc') (k : Ev l d own nm cc nL ret pc' lc (.int (x.toInt8.toInt32) :: st) h v h') : Ev l d own nm cc nL ret pc lc (.int x :: st) h v h' := by
  subst hp
  exact ev_pure (fun o => o.tl.cs (ok_int _ _)) (fun p e R s m args below meth c H locs cells Q ls ad C hl w => lv_i2b C.1 C.2.1 hd rfl w) k
theorem ev_i2s {x : Int32} (hd : decode cc pc = .ok (.i2s, 1)) (hp : pc + 1 = pc') (k : Ev l d own nm cc nL ret pc' lc (.int (x.toInt16.toInt32) :: st) h v h') : Ev l d own nm cc nL ret pc lc (.int x :: st) h v h' := by
  subst hp
  exact ev_pure (fun o => o.tl.cs (ok_int _ _)) (fun p e R s m args below meth c H locs cells Q ls ad C hl w => lv_i2s C.1 C.2.1 hd rfl w) k
theorem ev_lcmp {x y : Int64} (hd : decode cc pc = .ok (.lcmp, 1)) (hp : pc + 1 = pc') (k : Ev l d own nm cc nL ret pc' lc (.int (lg_cmp x y) :: st) h v h') : Ev l d own nm cc nL ret pc lc (.long y :: .long x :: st) h v h' := by
  subst hp
  exact ev_pure (fun o => o.tl.tl.cs (ok_int _ _)) (fun p e R s m args below meth c H locs cells Q ls ad C hl w => W.lcmp C.1 C.2.1 hd w) k
theorem ev_iconst {n : Int} (x : Int32) (hd : decode cc pc = .ok (.iconst n, 1)) (hp : pc + 1 = pc') (hv : Int32.ofInt n = x) (k : Ev l d own nm cc nL ret pc' lc (.int x :: st) h v h') : Ev l d own nm cc nL ret pc lc st h v h' := by
  subst hp
  exact ev_pure (fun o => o.cs (ok_int _ _)) (fun p e R s m args below meth c H locs cells Q ls ad C hl w => lv_iconst C.1 C.2.1 hd hv w) k
theorem ev_bipush {n : Int} (x : Int32) (hd : decode cc pc = .ok (.bipush n, 2)) (hp : pc + 2 = pc') (hv : (Int8.ofInt n).toInt32 = x) (k : Ev l d own nm cc nL ret pc' lc (.int x :: st) h v h') : Ev l d own nm cc nL ret pc lc st h v h' := by
  subst hp
  exact ev_pure (fun o => o.cs (ok_int _ _)) (fun p e R s m args below meth c H locs cells Q ls ad C hl w => lv_bipush C.1 C.2.1 hd hv w) k
theorem ev_sipush {n : Int} (x : Int32) (hd : decode cc pc = .ok (.sipush n, 3)) (hp : pc + 3 = pc') (hv : (Int16.ofInt n).toInt32 = x) (k : Ev l d own nm cc nL ret pc' lc (.int x :: st) h v h') : Ev l d own nm cc nL ret pc lc st h v h' := by
  subst hp
  exact ev_pure (fun o => o.cs (ok_int _ _)) (fun p e R s m args below meth c H locs cells Q ls ad C hl w => lv_sipush C.1 C.2.1 hd hv w) k
theorem ev_lconst {n : Fin 2} (x : Int64) (hd : decode cc pc = .ok (.lconst n, 1)) (hp : pc + 1 = pc') (hv : Int64.ofNat (n : Nat) = x) (k : Ev l d own nm cc nL ret pc' lc (.long x :: st) h v h') : Ev l d own nm cc nL ret pc lc st h v h' := by
  subst hp
  exact ev_pure (fun o => o.cs (ok_long _ _)) (fun p e R s m args below meth c H locs cells Q ls ad C hl w => lv_lconst C.1 C.2.1 hd hv w) k
theorem ev_ldc {i : Nat} {x : Int32} (hw : Cond.constant own i x ∈ bg_tbl) (hd : decode cc pc = .ok (.ldc i, 2)) (hp : pc + 2 = pc') (k : Ev l d own nm cc nL ret pc' lc (.int x :: st) h v h') : Ev l d own nm cc nL ret pc lc st h v h' := by
  subst hp
  exact ev_pure (fun o => o.cs (ok_int _ _)) (fun p e R s m args below meth c H locs cells Q ls ad C hl w => lv_ldc C.1 C.2.1 C.2.2.2.2.1 (C.2.2.2.2.2.1 _ hw) hd w) k
theorem ev_ldcw {i : Nat} {x : Int32} (hw : Cond.constant own i x ∈ bg_tbl) (hd : decode cc pc = .ok (.ldc_w i, 3)) (hp : pc + 3 = pc') (k : Ev l d own nm cc nL ret pc' lc (.int x :: st) h v h') : Ev l d own nm cc nL ret pc lc st h v h' := by
  subst hp
  exact ev_pure (fun o => o.cs (ok_int _ _)) (fun p e R s m args below meth c H locs cells Q ls ad C hl w => lv_ldcw C.1 C.2.1 C.2.2.2.2.1 (C.2.2.2.2.2.1 _ hw) hd w) k
theorem ev_ldc2 {i : Nat} {x : Int64} (hw : Cond.constantLong own i x ∈ bg_tbl) (hd : decode cc pc = .ok (.ldc2_w i, 3)) (hp : pc + 3 = pc') (k : Ev l d own nm cc nL ret pc' lc (.long x :: st) h v h') : Ev l d own nm cc nL ret pc lc st h v h' := by
  subst hp
  exact ev_pure (fun o => o.cs (ok_long _ _)) (fun p e R s m args below meth c H locs cells Q ls ad C hl w => lv_ldc2 C.1 C.2.1 C.2.2.2.2.1 (C.2.2.2.2.2.1 _ hw) hd w) k
theorem ev_null (hd : decode cc pc = .ok (.aconst_null, 1)) (hp : pc + 1 = pc') (k : Ev l d own nm cc nL ret pc' lc (.null :: st) h v h') : Ev l d own nm cc nL ret pc lc st h v h' := by
  subst hp
  exact ev_pure (fun o => o.cs (ok_null _)) (fun p e R s m args below meth c H locs cells Q ls ad C hl w => lv_null C.1 C.2.1 hd w) k
theorem ev_iload_n {k : Fin 4} {x : Int32} (hd : decode cc pc = .ok (.iload_n k, 1)) (hp : pc + 1 = pc') (hx : lc[k.val]? = some (some (.int x))) (kk : Ev l d own nm cc nL ret pc' lc (.int x :: st) h v h') : Ev l d own nm cc nL ret pc lc st h v h' := by
  subst hp
  exact ev_pure (fun o => o.cs (o.2.1 _ _ hx)) (fun p e R s m args below meth c H locs cells Q ls ad C hl w => lv_iload_n C.1 C.2.1 hd rfl (hl.2.2 _ _ hx) w) kk
theorem ev_iload {i : Nat} {x : Int32} (hd : decode cc pc = .ok (.iload i, 2)) (hp : pc + 2 = pc') (hx : lc[i]? = some (some (.int x))) (kk : Ev l d own nm cc nL ret pc' lc (.int x :: st) h v h') : Ev l d own nm cc nL ret pc lc st h v h' := by
  subst hp
  exact ev_pure (fun o => o.cs (o.2.1 _ _ hx)) (fun p e R s m args below meth c H locs cells Q ls ad C hl w => lv_iload C.1 C.2.1 hd (hl.2.2 _ _ hx) w) kk
theorem ev_lload_n {k : Fin 4} {x : Int64} (hd : decode cc pc = .ok (.lload_n k, 1)) (hp : pc + 1 = pc') (hx : lc[k.val]? = some (some (.long x))) (kk : Ev l d own nm cc nL ret pc' lc (.long x :: st) h v h') : Ev l d own nm cc nL ret pc lc st h v h' := by
  subst hp
  exact ev_pure (fun o => o.cs (o.2.1 _ _ hx)) (fun p e R s m args below meth c H locs cells Q ls ad C hl w => lv_lload_n C.1 C.2.1 hd rfl (hl.2.2 _ _ hx) w) kk
theorem ev_lload {i : Nat} {x : Int64} (hd : decode cc pc = .ok (.lload i, 2)) (hp : pc + 2 = pc') (hx : lc[i]? = some (some (.long x))) (kk : Ev l d own nm cc nL ret pc' lc (.long x :: st) h v h') : Ev l d own nm cc nL ret pc lc st h v h' := by
  subst hp
  exact ev_pure (fun o => o.cs (o.2.1 _ _ hx)) (fun p e R s m args below meth c H locs cells Q ls ad C hl w => lv_lload C.1 C.2.1 hd (hl.2.2 _ _ hx) w) kk
theorem ev_aload_n {k : Fin 4} {x : Nat} (hd : decode cc pc = .ok (.aload_n k, 1)) (hp : pc + 1 = pc') (hx : lc[k.val]? = some (some (.ref x))) (kk : Ev l d own nm cc nL ret pc' lc (.ref x :: st) h v h') : Ev l d own nm cc nL ret pc lc st h v h' := by
  subst hp
  exact ev_pure (fun o => o.cs (o.2.1 _ _ hx)) (fun p e R s m args below meth c H locs cells Q ls ad C hl w => lv_aload_n C.1 C.2.1 hd rfl (hl.2.2 _ _ hx) w) kk
theorem ev_aload {i : Nat} {x : Nat} (hd : decode cc pc = .ok (.aload i, 2)) (hp : pc + 2 = pc') (hx : lc[i]? = some (some (.ref x))) (kk : Ev l d own nm cc nL ret pc' lc (.ref x :: st) h v h') : Ev l d own nm cc nL ret pc lc st h v h' := by
  subst hp
  exact ev_pure (fun o => o.cs (o.2.1 _ _ hx)) (fun p e R s m args below meth c H locs cells Q ls ad C hl w => lv_aload C.1 C.2.1 hd (hl.2.2 _ _ hx) w) kk
theorem ev_aload_nN {k : Fin 4} (hd : decode cc pc = .ok (.aload_n k, 1)) (hp : pc + 1 = pc') (hx : lc[k.val]? = some (some .null)) (kk : Ev l d own nm cc nL ret pc' lc (.null :: st) h v h') : Ev l d own nm cc nL ret pc lc st h v h' := by
  subst hp
  exact ev_pure (fun o => o.cs (o.2.1 _ _ hx)) (fun p e R s m args below meth c H locs cells Q ls ad C hl w => lv_aload_nN C.1 C.2.1 hd rfl (hl.2.2 _ _ hx) w) kk
theorem ev_aloadN {i : Nat} (hd : decode cc pc = .ok (.aload i, 2)) (hp : pc + 2 = pc') (hx : lc[i]? = some (some .null)) (kk : Ev l d own nm cc nL ret pc' lc (.null :: st) h v h') : Ev l d own nm cc nL ret pc lc st h v h' := by
  subst hp
  exact ev_pure (fun o => o.cs (o.2.1 _ _ hx)) (fun p e R s m args below meth c H locs cells Q ls ad C hl w => lv_aloadN C.1 C.2.1 hd (hl.2.2 _ _ hx) w) kk
theorem ev_dup {a : Value} (hd : decode cc pc = .ok (.dup, 1)) (hp : pc + 1 = pc') (ha : a.category = 1) (k : Ev l d own nm cc nL ret pc' lc (a :: a :: st) h v h') : Ev l d own nm cc nL ret pc lc (a :: st) h v h' := by
  subst hp
  exact ev_pure (fun o => o.cs o.hd) (fun p e R s m args below meth c H locs cells Q ls ad C hl w => lv_dup C.1 C.2.1 hd ((ev_v_cat ad a).trans ha) w) k
theorem ev_pop {a : Value} (hd : decode cc pc = .ok (.pop, 1)) (hp : pc + 1 = pc') (ha : a.category = 1) (k : Ev l d own nm cc nL ret pc' lc st h v h') : Ev l d own nm cc nL ret pc lc (a :: st) h v h' := by
  subst hp
  exact ev_pure (fun o => o.tl) (fun p e R s m args below meth c H locs cells Q ls ad C hl w => lv_pop C.1 C.2.1 hd ((ev_v_cat ad a).trans ha) w) k
theorem ev_dup2 {a b : Value} (hd : decode cc pc = .ok (.dup2, 1)) (hp : pc + 1 = pc') (ha : a.category = 1) (hb : b.category = 1) (k : Ev l d own nm cc nL ret pc' lc (a :: b :: a :: b :: st) h v h') : Ev l d own nm cc nL ret pc lc (a :: b :: st) h v h' := by
  subst hp
  exact ev_pure (fun o => (o.cs o.tl.hd).cs o.hd) (fun p e R s m args below meth c H locs cells Q ls ad C hl w => lv_dup2_11 C.1 C.2.1 hd ((ev_v_cat ad a).trans ha) ((ev_v_cat ad b).trans hb) w) k
theorem ev_if_eq {x : Int32} {off : Int} {tgt : Nat} (hd : decode cc pc = .ok (.ifCond .eq off, 3)) (ht : (pc : Int) + off = (tgt : Int)) (hp : pc + 3 = pc') (kt : x = 0 → Ev l d own nm cc nL ret tgt lc st h v h') (kf : ¬ x = 0 → Ev l d own nm cc nL ret pc' lc st h v h') : Ev l d own nm cc nL ret pc lc (.int x :: st) h v h' := by
  subst hp
  by_cases hc : x = 0
  · exact ev_pure (fun o => o.tl) (fun p e R s m args below meth c H locs cells Q ls ad C hl w => lv_if_eq C.1 C.2.1 hd ht (fun _ => w) (fun hn => absurd hc hn)) (kt hc)
  · exact ev_pure (fun o => o.tl) (fun p e R s m args below meth c H locs cells Q ls ad C hl w => lv_if_eq C.1 C.2.1 hd ht (fun hn => absurd hn hc) (fun _ => w)) (kf hc)
theorem ev_icmp_eq {x y : Int32} {off : Int} {tgt : Nat} (hd : decode cc pc = .ok (.if_icmp .eq off, 3)) (ht : (pc : Int) + off = (tgt : Int)) (hp : pc + 3 = pc') (kt : x = y → Ev l d own nm cc nL ret tgt lc st h v h') (kf : ¬ x = y → Ev l d own nm cc nL ret pc' lc st h v h') : Ev l d own nm cc nL ret pc lc (.int y :: .int x :: st) h v h' := by
  subst hp
  by_cases hc : x = y
  · exact ev_pure (fun o => o.tl.tl) (fun p e R s m args below meth c H locs cells Q ls ad C hl w => lv_icmp_eq C.1 C.2.1 hd ht (fun _ => w) (fun hn => absurd hc hn)) (kt hc)
  · exact ev_pure (fun o => o.tl.tl) (fun p e R s m args below meth c H locs cells Q ls ad C hl w => lv_icmp_eq C.1 C.2.1 hd ht (fun hn => absurd hn hc) (fun _ => w)) (kf hc)
theorem ev_if_ne {x : Int32} {off : Int} {tgt : Nat} (hd : decode cc pc = .ok (.ifCond .ne off, 3)) (ht : (pc : Int) + off = (tgt : Int)) (hp : pc + 3 = pc') (kt : ¬ x = 0 → Ev l d own nm cc nL ret tgt lc st h v h') (kf : x = 0 → Ev l d own nm cc nL ret pc' lc st h v h') : Ev l d own nm cc nL ret pc lc (.int x :: st) h v h' := by
  subst hp
  by_cases hc : x = 0
  · exact ev_pure (fun o => o.tl) (fun p e R s m args below meth c H locs cells Q ls ad C hl w => lv_if_ne C.1 C.2.1 hd ht (fun hn => absurd hc hn) (fun _ => w)) (kf hc)
  · exact ev_pure (fun o => o.tl) (fun p e R s m args below meth c H locs cells Q ls ad C hl w => lv_if_ne C.1 C.2.1 hd ht (fun _ => w) (fun hn => absurd hn hc)) (kt hc)
theorem ev_icmp_ne {x y : Int32} {off : Int} {tgt : Nat} (hd : decode cc pc = .ok (.if_icmp .ne off, 3)) (ht : (pc : Int) + off = (tgt : Int)) (hp : pc + 3 = pc') (kt : ¬ x = y → Ev l d own nm cc nL ret tgt lc st h v h') (kf : x = y → Ev l d own nm cc nL ret pc' lc st h v h') : Ev l d own nm cc nL ret pc lc (.int y :: .int x :: st) h v h' := by
  subst hp
  by_cases hc : x = y
  · exact ev_pure (fun o => o.tl.tl) (fun p e R s m args below meth c H locs cells Q ls ad C hl w => lv_icmp_ne C.1 C.2.1 hd ht (fun hn => absurd hc hn) (fun _ => w)) (kf hc)
  · exact ev_pure (fun o => o.tl.tl) (fun p e R s m args below meth c H locs cells Q ls ad C hl w => lv_icmp_ne C.1 C.2.1 hd ht (fun _ => w) (fun hn => absurd hn hc)) (kt hc)
theorem ev_if_lt {x : Int32} {off : Int} {tgt : Nat} (hd : decode cc pc = .ok (.ifCond .lt off, 3)) (ht : (pc : Int) + off = (tgt : Int)) (hp : pc + 3 = pc') (kt : x < 0 → Ev l d own nm cc nL ret tgt lc st h v h') (kf : ¬ x < 0 → Ev l d own nm cc nL ret pc' lc st h v h') : Ev l d own nm cc nL ret pc lc (.int x :: st) h v h' := by
  subst hp
  by_cases hc : x < 0
  · exact ev_pure (fun o => o.tl) (fun p e R s m args below meth c H locs cells Q ls ad C hl w => lv_if_lt C.1 C.2.1 hd ht (fun _ => w) (fun hn => absurd hc hn)) (kt hc)
  · exact ev_pure (fun o => o.tl) (fun p e R s m args below meth c H locs cells Q ls ad C hl w => lv_if_lt C.1 C.2.1 hd ht (fun hn => absurd hn hc) (fun _ => w)) (kf hc)
theorem ev_icmp_lt {x y : Int32} {off : Int} {tgt : Nat} (hd : decode cc pc = .ok (.if_icmp .lt off, 3)) (ht : (pc : Int) + off = (tgt : Int)) (hp : pc + 3 = pc') (kt : x < y → Ev l d own nm cc nL ret tgt lc st h v h') (kf : ¬ x < y → Ev l d own nm cc nL ret pc' lc st h v h') : Ev l d own nm cc nL ret pc lc (.int y :: .int x :: st) h v h' := by
  subst hp
  by_cases hc : x < y
  · exact ev_pure (fun o => o.tl.tl) (fun p e R s m args below meth c H locs cells Q ls ad C hl w => lv_icmp_lt C.1 C.2.1 hd ht (fun _ => w) (fun hn => absurd hc hn)) (kt hc)
  · exact ev_pure (fun o => o.tl.tl) (fun p e R s m args below meth c H locs cells Q ls ad C hl w => lv_icmp_lt C.1 C.2.1 hd ht (fun hn => absurd hn hc) (fun _ => w)) (kf hc)
theorem ev_if_ge {x : Int32} {off : Int} {tgt : Nat} (hd : decode cc pc = .ok (.ifCond .ge off, 3)) (ht : (pc : Int) + off = (tgt : Int)) (hp : pc + 3 = pc') (kt : 0 ≤ x → Ev l d own nm cc nL ret tgt lc st h v h') (kf : ¬ 0 ≤ x → Ev l d own nm cc nL ret pc' lc st h v h') : Ev l d own nm cc nL ret pc lc (.int x :: st) h v h' := by
  subst hp
  by_cases hc : 0 ≤ x
  · exact ev_pure (fun o => o.tl) (fun p e R s m args below meth c H locs cells Q ls ad C hl w => lv_if_ge C.1 C.2.1 hd ht (fun _ => w) (fun hn => absurd hc hn)) (kt hc)
  · exact ev_pure (fun o => o.tl) (fun p e R s m args below meth c H locs cells Q ls ad C hl w => lv_if_ge C.1 C.2.1 hd ht (fun hn => absurd hn hc) (fun _ => w)) (kf hc)
theorem ev_icmp_ge {x y : Int32} {off : Int} {tgt : Nat} (hd : decode cc pc = .ok (.if_icmp .ge off, 3)) (ht : (pc : Int) + off = (tgt : Int)) (hp : pc + 3 = pc') (kt : y ≤ x → Ev l d own nm cc nL ret tgt lc st h v h') (kf : ¬ y ≤ x → Ev l d own nm cc nL ret pc' lc st h v h') : Ev l d own nm cc nL ret pc lc (.int y :: .int x :: st) h v h' := by
  subst hp
  by_cases hc : y ≤ x
  · exact ev_pure (fun o => o.tl.tl) (fun p e R s m args below meth c H locs cells Q ls ad C hl w => lv_icmp_ge C.1 C.2.1 hd ht (fun _ => w) (fun hn => absurd hc hn)) (kt hc)
  · exact ev_pure (fun o => o.tl.tl) (fun p e R s m args below meth c H locs cells Q ls ad C hl w => lv_icmp_ge C.1 C.2.1 hd ht (fun hn => absurd hn hc) (fun _ => w)) (kf hc)
theorem ev_if_gt {x : Int32} {off : Int} {tgt : Nat} (hd : decode cc pc = .ok (.ifCond .gt off, 3)) (ht : (pc : Int) + off = (tgt : Int)) (hp : pc + 3 = pc') (kt : 0 < x → Ev l d own nm cc nL ret tgt lc st h v h') (kf : ¬ 0 < x → Ev l d own nm cc nL ret pc' lc st h v h') : Ev l d own nm cc nL ret pc lc (.int x :: st) h v h' := by
  subst hp
  by_cases hc : 0 < x
  · exact ev_pure (fun o => o.tl) (fun p e R s m args below meth c H locs cells Q ls ad C hl w => lv_if_gt C.1 C.2.1 hd ht (fun _ => w) (fun hn => absurd hc hn)) (kt hc)
  · exact ev_pure (fun o => o.tl) (fun p e R s m args below meth c H locs cells Q ls ad C hl w => lv_if_gt C.1 C.2.1 hd ht (fun hn => absurd hn hc) (fun _ => w)) (kf hc)
theorem ev_icmp_gt {x y : Int32} {off : Int} {tgt : Nat} (hd : decode cc pc = .ok (.if_icmp .gt off, 3)) (ht : (pc : Int) + off = (tgt : Int)) (hp : pc + 3 = pc') (kt : y < x → Ev l d own nm cc nL ret tgt lc st h v h') (kf : ¬ y < x → Ev l d own nm cc nL ret pc' lc st h v h') : Ev l d own nm cc nL ret pc lc (.int y :: .int x :: st) h v h' := by
  subst hp
  by_cases hc : y < x
  · exact ev_pure (fun o => o.tl.tl) (fun p e R s m args below meth c H locs cells Q ls ad C hl w => lv_icmp_gt C.1 C.2.1 hd ht (fun _ => w) (fun hn => absurd hc hn)) (kt hc)
  · exact ev_pure (fun o => o.tl.tl) (fun p e R s m args below meth c H locs cells Q ls ad C hl w => lv_icmp_gt C.1 C.2.1 hd ht (fun hn => absurd hn hc) (fun _ => w)) (kf hc)
theorem ev_if_le {x : Int32} {off : Int} {tgt : Nat} (hd : decode cc pc = .ok (.ifCond .le off, 3)) (ht : (pc : Int) + off = (tgt : Int)) (hp : pc + 3 = pc') (kt : x ≤ 0 → Ev l d own nm cc nL ret tgt lc st h v h') (kf : ¬ x ≤ 0 → Ev l d own nm cc nL ret pc' lc st h v h') : Ev l d own nm cc nL ret pc lc (.int x :: st) h v h' := by
  subst hp
  by_cases hc : x ≤ 0
  · exact ev_pure (fun o => o.tl) (fun p e R s m args below meth c H locs cells Q ls ad C hl w => lv_if_le C.1 C.2.1 hd ht (fun _ => w) (fun hn => absurd hc hn)) (kt hc)
  · exact ev_pure (fun o => o.tl) (fun p e R s m args below meth c H locs cells Q ls ad C hl w => lv_if_le C.1 C.2.1 hd ht (fun hn => absurd hn hc) (fun _ => w)) (kf hc)
theorem ev_icmp_le {x y : Int32} {off : Int} {tgt : Nat} (hd : decode cc pc = .ok (.if_icmp .le off, 3)) (ht : (pc : Int) + off = (tgt : Int)) (hp : pc + 3 = pc') (kt : x ≤ y → Ev l d own nm cc nL ret tgt lc st h v h') (kf : ¬ x ≤ y → Ev l d own nm cc nL ret pc' lc st h v h') : Ev l d own nm cc nL ret pc lc (.int y :: .int x :: st) h v h' := by
  subst hp
  by_cases hc : x ≤ y
  · exact ev_pure (fun o => o.tl.tl) (fun p e R s m args below meth c H locs cells Q ls ad C hl w => lv_icmp_le C.1 C.2.1 hd ht (fun _ => w) (fun hn => absurd hc hn)) (kt hc)
  · exact ev_pure (fun o => o.tl.tl) (fun p e R s m args below meth c H locs cells Q ls ad C hl w => lv_icmp_le C.1 C.2.1 hd ht (fun hn => absurd hn hc) (fun _ => w)) (kf hc)
theorem ev_goto {off : Int} {tgt : Nat} (hd : decode cc pc = .ok (.goto off, 3)) (ht : (pc : Int) + off = (tgt : Int)) (k : Ev l d own nm cc nL ret tgt lc st h v h') : Ev l d own nm cc nL ret pc lc st h v h' :=
  ev_pure (fun o => o) (fun p e R s m args below meth c H locs cells Q ls ad C hl w => lv_goto C.1 C.2.1 hd ht w) k
theorem ev_ifnull {a : Nat} {off : Int} (hd : decode cc pc = .ok (.ifnull off, 3)) (hp : pc + 3 = pc') (k : Ev l d own nm cc nL ret pc' lc st h v h') : Ev l d own nm cc nL ret pc lc (.ref a :: st) h v h' := by
  subst hp
  exact ev_pure (fun o => o.tl) (fun p e R s m args below meth c H locs cells Q ls ad C hl w => lv_ifnull C.1 C.2.1 hd w) k
theorem ev_ifnullN {off : Int} {tgt : Nat} (hd : decode cc pc = .ok (.ifnull off, 3)) (ht : (pc : Int) + off = (tgt : Int)) (k : Ev l d own nm cc nL ret tgt lc st h v h') : Ev l d own nm cc nL ret pc lc (.null :: st) h v h' :=
  ev_pure (fun o => o.tl) (fun p e R s m args below meth c H locs cells Q ls ad C hl w => lv_ifnullN C.1 C.2.1 hd ht w) k
theorem ev_ifnonnull {a : Nat} {off : Int} {tgt : Nat} (hd : decode cc pc = .ok (.ifnonnull off, 3)) (ht : (pc : Int) + off = (tgt : Int)) (k : Ev l d own nm cc nL ret tgt lc st h v h') : Ev l d own nm cc nL ret pc lc (.ref a :: st) h v h' :=
  ev_pure (fun o => o.tl) (fun p e R s m args below meth c H locs cells Q ls ad C hl w => lv_ifnonnull C.1 C.2.1 hd ht w) k
theorem ev_ifnonnullN {off : Int} (hd : decode cc pc = .ok (.ifnonnull off, 3)) (hp : pc + 3 = pc') (k : Ev l d own nm cc nL ret pc' lc st h v h') : Ev l d own nm cc nL ret pc lc (.null :: st) h v h' := by
  subst hp
  exact ev_pure (fun o => o.tl) (fun p e R s m args below meth c H locs cells Q ls ad C hl w => lv_ifnonnullN C.1 C.2.1 hd w) k
theorem ev_tableOut {dflt lo hi : Int} {offs : Array Int} {len : Nat} {x : Int32} {tgt : Nat} (hd : decode cc pc = .ok (.tableswitch dflt lo hi offs, len)) (hx : x.toInt < lo ∨ hi < x.toInt) (ht : (pc : Int) + dflt = (tgt : Int)) (k : Ev l d own nm cc nL ret tgt lc st h v h') : Ev l d own nm cc nL ret pc lc (.int x :: st) h v h' :=
  ev_pure (fun o => o.tl) (fun p e R s m args below meth c H locs cells Q ls ad C hl w => lv_tableOut C.1 C.2.1 hd hx ht w) k
theorem ev_tableIn {dflt lo hi : Int} {offs : Array Int} {len : Nat} {x : Int32} {off : Int} {tgt : Nat} (hd : decode cc pc = .ok (.tableswitch dflt lo hi offs, len)) (h1 : ¬ x.toInt < lo) (h2 : ¬ hi < x.toInt) (ho : offs[(x.toInt - lo).toNat]? = some off) (ht : (pc : Int) + off = (tgt : Int)) (k : Ev l d own nm cc nL ret tgt lc st h v h') : Ev l d own nm cc nL ret pc lc (.int x :: st) h v h' :=
  ev_pure (fun o => o.tl) (fun p e R s m args below meth c H locs cells Q ls ad C hl w => lv_tableIn C.1 C.2.1 hd h1 h2 ho ht w) k
def ev_as (ad : Nat → Nat) : Nat → ev_L → List (Nat × Value)
  | _, [] => []
  | i, none :: r => ev_as ad (i + 1) r
  | i, some v :: r => (i, ev_v ad v) :: ev_as ad (i + 1) r
theorem ev_as_of {ad : Nat → Nat} : ∀ (lc : ev_L) (i : Nat) (q : Nat × Value), q ∈ ev_as ad i lc → ∃ j v, q = (i + j, ev_v ad v) ∧ lc[j]? = some (some v)
  | [], _, _, h => absurd h List.not_mem_nil
  | none :: r, i, q, h => by
    obtain ⟨j, v, e, hj⟩ := ev_as_of r (i + 1) q h
    exact ⟨j + 1, v, by rw [e]; congr 1; omega, by rw [List.getElem?_cons_succ]; exact hj⟩
  | some w :: r, i, q, h => by
    rcases List.mem_cons.mp h with e | h
    · exact ⟨0, w, e, rfl⟩
    · obtain ⟨j, v, e, hj⟩ := ev_as_of r (i + 1) q h
      exact ⟨j + 1, v, by rw [e]; congr 1; omega, by rw [List.getElem?_cons_succ]; exact hj⟩
theorem ev_as_in {ad : Nat → Nat} : ∀ (lc : ev_L) (i j : Nat) (v : Value), lc[j]? = some (some v) → (i + j, ev_v ad v) ∈ ev_as ad i lc
  | [], _, _, _, h => by simp at h
  | none :: r, i, 0, v, h => by simp at h
  | none :: r, i, j + 1, v, h => by
    rw [List.getElem?_cons_succ] at h
    have := ev_as_in (ad := ad) r (i + 1) j v h
    rw [show i + 1 + j = i + (j + 1) by omega] at this
    exact this
  | some w :: r, i, 0, v, h => by
    rw [List.getElem?_cons_zero] at h
    cases h
    exact List.mem_cons_self
  | some w :: r, i, j + 1, v, h => by
    rw [List.getElem?_cons_succ] at h
    have := ev_as_in (ad := ad) r (i + 1) j v h
    rw [show i + 1 + j = i + (j + 1) by omega] at this
    exact List.mem_cons_of_mem _ this
theorem ev_h.has {ad : Nat → Nat} {ls : Array Slot} (hl : ev_h ad ls nL lc) : lv_has ls nL (ev_as ad 0 lc) := ⟨hl.1, hl.2.1, fun q hq => by
  obtain ⟨j, v, e, hj⟩ := ev_as_of lc 0 q hq
  rw [e, Nat.zero_add]
  exact hl.2.2 j v hj⟩
def ev_c1 (a : Option Value) : Bool := match a with
  | some (.long _) => false
  | some (.double _) => false
  | _ => true
def ev_pv (lc : ev_L) (i : Nat) : Prop := ∀ j u, j + 1 = i → lc[j]? = some (some u) → ¬ u.category = 2
theorem ev_c1_ne {u : Value} (h : ev_c1 (some u) = true) : ¬ u.category = 2 := by cases u <;> first | (cases h; done) | (simp [Value.category]; done)
theorem ev_pv0 (lc : ev_L) : ev_pv lc 0 := fun j u h => by omega
theorem ev_pvs {lc : ev_L} {i : Nat} {a : Option Value} (hi : lc[i]? = some a) (ha : ev_c1 a = true) : ev_pv lc (i + 1) := fun j u hj hu => by
  have : j = i := by omega
  subst this
  rw [hi] at hu
  cases hu
  exact ev_c1_ne ha
theorem ev_st1 {ad : Nat → Nat} {ls' : Array Slot} {i : Nat} {w : Value} (hp : ev_pv lc i) (hl' : lv_has ls' nL ((i, ev_v ad w) :: (ev_as ad 0 lc).filter (fun q => !(q.1 == i) && !(q.1 + 1 == i && q.2.category == 2)))) : ev_h ad ls' nL (lc.set i (some w)) := by
  refine ⟨hl'.1, hl'.2.1, fun j u hj => ?_⟩
  by_cases hji : i = j
  · subst hji
    rw [List.getElem?_set] at hj
    by_cases hb : i < lc.length
    · simp [hb] at hj
      subst hj
      exact hl'.2.2 _ List.mem_cons_self
    · simp [hb] at hj
  · rw [List.getElem?_set_ne hji] at hj
    have h1 := ev_as_in (ad := ad) lc 0 j u hj
    rw [Nat.zero_add] at h1
    refine hl'.2.2 (j, ev_v ad u) (List.mem_cons_of_mem _ (List.mem_filter.mpr ⟨h1, ?_⟩))
    have h2 : ¬ (j + 1 = i ∧ u.category = 2) := fun z => hp j u z.1 hj z.2
    simp only [ev_v_cat, Bool.and_eq_true, Bool.not_eq_true', beq_eq_false_iff_ne, ne_eq, Bool.and_eq_false_iff, Bool.not_eq_true]
    refine ⟨fun e => hji e.symm, ?_⟩
    by_cases hz : j + 1 = i
    · exact Or.inr fun e => h2 ⟨hz, e⟩
    · exact Or.inl hz
theorem ev_st2 {ad : Nat → Nat} {ls' : Array Slot} {i : Nat} {w : Value} (hp : ev_pv lc i) (hl' : lv_has ls' nL ((i, ev_v ad w) :: (ev_as ad 0 lc).filter (fun q => !(q.1 == i) && (!(q.1 == i + 1) && !(q.1 + 1 == i && q.2.category == 2))))) : ev_h ad ls' nL ((lc.set i (some w)).set (i + 1) none) := by
  refine ⟨hl'.1, hl'.2.1, fun j u hj => ?_⟩
  by_cases hj1 : i + 1 = j
  · subst hj1
    rw [List.getElem?_set] at hj
    by_cases hb : i + 1 < (lc.set i (some w)).length
    · simp [hb] at hj
    · simp [hb] at hj
  rw [List.getElem?_set_ne hj1] at hj
  by_cases hji : i = j
  · subst hji
    rw [List.getElem?_set] at hj
    by_cases hb : i < lc.length
    · simp [hb] at hj
      subst hj
      exact hl'.2.2 _ List.mem_cons_self
    · simp [hb] at hj
  · rw [List.getElem?_set_ne hji] at hj
    have h1 := ev_as_in (ad := ad) lc 0 j u hj
    rw [Nat.zero_add] at h1
    refine hl'.2.2 (j, ev_v ad u) (List.mem_cons_of_mem _ (List.mem_filter.mpr ⟨h1, ?_⟩))
    have h2 : ¬ (j + 1 = i ∧ u.category = 2) := fun z => hp j u z.1 hj z.2
    simp only [ev_v_cat, Bool.and_eq_true, Bool.not_eq_true', beq_eq_false_iff_ne, ne_eq, Bool.and_eq_false_iff, Bool.not_eq_true]
    refine ⟨fun e => hji e.symm, fun e => hj1 e.symm, ?_⟩
    by_cases hz : j + 1 = i
    · exact Or.inr fun e => h2 ⟨hz, e⟩
    · exact Or.inl hz
theorem ok_s.sto {lc' : ev_L} (o : ok_s h lc st) {i : Nat} {w : Value} (hw : ok_v h.length w) (hs : lc' = lc.set i (some w)) : ok_s h lc' st := by
  subst hs
  refine ⟨o.1, fun j u hj => ?_, o.2.2⟩
  by_cases hji : i = j
  · subst hji
    rw [List.getElem?_set] at hj
    by_cases hb : i < lc.length
    · simp [hb] at hj
      subst hj
      exact hw
    · simp [hb] at hj
  · rw [List.getElem?_set_ne hji] at hj
    exact o.2.1 j u hj
theorem ok_s.no (o : ok_s h lc st) (i : Nat) : ok_s h (lc.set i none) st := by
  refine ⟨o.1, fun j u hj => ?_, o.2.2⟩
  by_cases hji : i = j
  · subst hji
    rw [List.getElem?_set] at hj
    by_cases hb : i < lc.length
    · simp [hb] at hj
    · simp [hb] at hj
  · rw [List.getElem?_set_ne hji] at hj
    exact o.2.1 j u hj
theorem ev_loc {lc' : ev_L} {st' : List Value} (hok : ok_s h lc st → ok_s h lc' st')
    (hW : ∀ (p : Program) (e : Env) (R : Room) (s : State) (m : MethodId) (args : Array Value) (below : List Frame) (meth : Method) (c : Code) (H : Heap) (locs : List Loc) (cells : Nat) (Q : State → Prop) (ls : Array Slot) (ad : Nat → Nat), ev_C p s m args meth c own nm cc nL ret → ev_h ad ls nL lc → (∀ ls' : Array Slot, ev_h ad ls' nL lc' → W p l e R s m args below meth c H locs cells (1000 * cells) Q (F0 m pc' ls' (st'.map (ev_v ad)))) → W p l e R s m args below meth c H locs cells (1000 * cells) Q (F0 m pc ls (st.map (ev_v ad))))
    (k : Ev l d own nm cc nL ret pc' lc' st' h v h') : Ev l d own nm cc nL ret pc lc st h v h' := by
  intro o
  obtain ⟨k1, k2, k3, k4⟩ := k (hok o)
  exact ⟨k1, k2, k3, fun p e R s m args below meth c H locs cells mc ls D aC ad A C Dd hl h1 h2 h3 h4 h5 => hW p e R s m args below meth c H locs cells _ ls ad C hl (fun ls' hl' => k4 p e R s m args below meth c H locs cells mc ls' D aC ad A C Dd hl' h1 h2 h3 h4 h5)⟩
theorem ev_istore_0 {a0 : Option Value} {r : ev_L} {x : Int32} (hd : decode cc pc = .ok (.istore_n 0, 1)) (hp : pc + 1 = pc') (hn : 0 < nL) (k : Ev l d own nm cc nL ret pc' (some (.int x) :: r) st h v h') : Ev l d own nm cc nL ret pc (a0 :: r) (.int x :: st) h v h' := by
  subst hp
  exact ev_loc (lc := a0 :: r) (lc' := some (.int x) :: r) (fun o => (o.tl.sto (i := 0) (ok_int _ _) rfl)) (fun p e R s m args below meth c H locs cells Q ls ad C hl w => lv_istore_n C.1 C.2.1 hd rfl hl.has hn rfl (fun ls' hl' => w ls' (ev_st1 (lc := a0 :: r) (i := 0) (w := .int x) (ev_pv0 _) hl'))) k
theorem ev_lstore_0 {a0 a1 : Option Value} {r : ev_L} {x : Int64} (hd : decode cc pc = .ok (.lstore_n 0, 1)) (hp : pc + 1 = pc') (hn : 0 + 1 < nL) (k : Ev l d own nm cc nL ret pc' (some (.long x) :: none :: r) st h v h') : Ev l d own nm cc nL ret pc (a0 :: a1 :: r) (.long x :: st) h v h' := by
  subst hp
  exact ev_loc (lc := a0 :: a1 :: r) (lc' := some (.long x) :: none :: r) (fun o => ((o.tl.sto (i := 0) (ok_long _ _) rfl).no 1)) (fun p e R s m args below meth c H locs cells Q ls ad C hl w => lv_lstore_n C.1 C.2.1 hd rfl hl.has hn rfl (fun ls' hl' => w ls' (ev_st2 (lc := a0 :: a1 :: r) (i := 0) (w := .long x) (ev_pv0 _) hl'))) k
theorem ev_astore_0 {a0 : Option Value} {r : ev_L} {x : Nat} (hd : decode cc pc = .ok (.astore_n 0, 1)) (hp : pc + 1 = pc') (hn : 0 < nL) (k : Ev l d own nm cc nL ret pc' (some (.ref x) :: r) st h v h') : Ev l d own nm cc nL ret pc (a0 :: r) (.ref x :: st) h v h' := by
  subst hp
  exact ev_loc (lc := a0 :: r) (lc' := some (.ref x) :: r) (fun o => (o.tl.sto (i := 0) (o.hd) rfl)) (fun p e R s m args below meth c H locs cells Q ls ad C hl w => lv_astore_n C.1 C.2.1 hd rfl hl.has hn rfl (fun ls' hl' => w ls' (ev_st1 (lc := a0 :: r) (i := 0) (w := .ref x) (ev_pv0 _) hl'))) k
theorem ev_astore_0N {a0 : Option Value} {r : ev_L} (hd : decode cc pc = .ok (.astore_n 0, 1)) (hp : pc + 1 = pc') (hn : 0 < nL) (k : Ev l d own nm cc nL ret pc' (some (.null) :: r) st h v h') : Ev l d own nm cc nL ret pc (a0 :: r) (.null :: st) h v h' := by
  subst hp
  exact ev_loc (lc := a0 :: r) (lc' := some (.null) :: r) (fun o => (o.tl.sto (i := 0) (ok_null _) rfl)) (fun p e R s m args below meth c H locs cells Q ls ad C hl w => lv_astore_nN C.1 C.2.1 hd rfl hl.has hn rfl (fun ls' hl' => w ls' (ev_st1 (lc := a0 :: r) (i := 0) (w := .null) (ev_pv0 _) hl'))) k
theorem ev_iinc_0 {r : ev_L} {x : Int32} {n : Int} (c : Int32) (hd : decode cc pc = .ok (.iinc 0 n, 3)) (hp : pc + 3 = pc') (hc : Int32.ofInt n = c) (hn : 0 < nL) (k : Ev l d own nm cc nL ret pc' (some (.int (x + c)) :: r) st h v h') : Ev l d own nm cc nL ret pc (some (.int x) :: r) st h v h' := by
  subst hp
  subst hc
  refine ev_loc (lc := some (.int x) :: r) (lc' := some (.int (x + Int32.ofInt n)) :: r) (fun o => o.sto (i := 0) (ok_int _ _) rfl) (fun p e R s m args below meth c H locs cells Q ls ad C hl w => ?_) k
  obtain ⟨kx, hk⟩ := List.getElem?_of_mem (ev_as_in (ad := ad) (some (.int x) :: r) 0 0 (.int x) rfl)
  rw [Nat.zero_add] at hk
  exact lv_iinc C.1 C.2.1 hd hl.has hk rfl hn rfl (fun ls' hl' => w ls' (ev_st1 (lc := some (.int x) :: r) (i := 0) (w := .int (x + Int32.ofInt n)) (ev_pv0 _) hl'))
theorem ev_istore_1 {a0 a1 : Option Value} {r : ev_L} {x : Int32} (hd : decode cc pc = .ok (.istore_n 1, 1)) (hp : pc + 1 = pc') (hn : 1 < nL) (hq : ev_c1 a0 = true) (k : Ev l d own nm cc nL ret pc' (a0 :: some (.int x) :: r) st h v h') : Ev l d own nm cc nL ret pc (a0 :: a1 :: r) (.int x :: st) h v h' := by
  subst hp
  exact ev_loc (lc := a0 :: a1 :: r) (lc' := a0 :: some (.int x) :: r) (fun o => (o.tl.sto (i := 1) (ok_int _ _) rfl)) (fun p e R s m args below meth c H locs cells Q ls ad C hl w => lv_istore_n C.1 C.2.1 hd rfl hl.has hn rfl (fun ls' hl' => w ls' (ev_st1 (lc := a0 :: a1 :: r) (i := 1) (w := .int x) (ev_pvs (i := 0) rfl hq) hl'))) k
theorem ev_lstore_1 {a0 a1 a2 : Option Value} {r : ev_L} {x : Int64} (hd : decode cc pc = .ok (.lstore_n 1, 1)) (hp : pc + 1 = pc') (hn : 1 + 1 < nL) (hq : ev_c1 a0 = true) (k : Ev l d own nm cc nL ret pc' (a0 :: some (.long x) :: none :: r) st h v h') : Ev l d own nm cc nL ret pc (a0 :: a1 :: a2 :: r) (.long x :: st) h v h' := by
  subst hp
  exact ev_loc (lc := a0 :: a1 :: a2 :: r) (lc' := a0 :: some (.long x) :: none :: r) (fun o => ((o.tl.sto (i := 1) (ok_long _ _) rfl).no 2)) (fun p e R s m args below meth c H locs cells Q ls ad C hl w => lv_lstore_n C.1 C.2.1 hd rfl hl.has hn rfl (fun ls' hl' => w ls' (ev_st2 (lc := a0 :: a1 :: a2 :: r) (i := 1) (w := .long x) (ev_pvs (i := 0) rfl hq) hl'))) k
theorem ev_astore_1 {a0 a1 : Option Value} {r : ev_L} {x : Nat} (hd : decode cc pc = .ok (.astore_n 1, 1)) (hp : pc + 1 = pc') (hn : 1 < nL) (hq : ev_c1 a0 = true) (k : Ev l d own nm cc nL ret pc' (a0 :: some (.ref x) :: r) st h v h') : Ev l d own nm cc nL ret pc (a0 :: a1 :: r) (.ref x :: st) h v h' := by
  subst hp
  exact ev_loc (lc := a0 :: a1 :: r) (lc' := a0 :: some (.ref x) :: r) (fun o => (o.tl.sto (i := 1) (o.hd) rfl)) (fun p e R s m args below meth c H locs cells Q ls ad C hl w => lv_astore_n C.1 C.2.1 hd rfl hl.has hn rfl (fun ls' hl' => w ls' (ev_st1 (lc := a0 :: a1 :: r) (i := 1) (w := .ref x) (ev_pvs (i := 0) rfl hq) hl'))) k
theorem ev_astore_1N {a0 a1 : Option Value} {r : ev_L} (hd : decode cc pc = .ok (.astore_n 1, 1)) (hp : pc + 1 = pc') (hn : 1 < nL) (hq : ev_c1 a0 = true) (k : Ev l d own nm cc nL ret pc' (a0 :: some (.null) :: r) st h v h') : Ev l d own nm cc nL ret pc (a0 :: a1 :: r) (.null :: st) h v h' := by
  subst hp
  exact ev_loc (lc := a0 :: a1 :: r) (lc' := a0 :: some (.null) :: r) (fun o => (o.tl.sto (i := 1) (ok_null _) rfl)) (fun p e R s m args below meth c H locs cells Q ls ad C hl w => lv_astore_nN C.1 C.2.1 hd rfl hl.has hn rfl (fun ls' hl' => w ls' (ev_st1 (lc := a0 :: a1 :: r) (i := 1) (w := .null) (ev_pvs (i := 0) rfl hq) hl'))) k
theorem ev_iinc_1 {a0 : Option Value} {r : ev_L} {x : Int32} {n : Int} (c : Int32) (hd : decode cc pc = .ok (.iinc 1 n, 3)) (hp : pc + 3 = pc') (hc : Int32.ofInt n = c) (hn : 1 < nL) (hq : ev_c1 a0 = true) (k : Ev l d own nm cc nL ret pc' (a0 :: some (.int (x + c)) :: r) st h v h') : Ev l d own nm cc nL ret pc (a0 :: some (.int x) :: r) st h v h' := by
  subst hp
  subst hc
  refine ev_loc (lc := a0 :: some (.int x) :: r) (lc' := a0 :: some (.int (x + Int32.ofInt n)) :: r) (fun o => o.sto (i := 1) (ok_int _ _) rfl) (fun p e R s m args below meth c H locs cells Q ls ad C hl w => ?_) k
  obtain ⟨kx, hk⟩ := List.getElem?_of_mem (ev_as_in (ad := ad) (a0 :: some (.int x) :: r) 0 1 (.int x) rfl)
  rw [Nat.zero_add] at hk
  exact lv_iinc C.1 C.2.1 hd hl.has hk rfl hn rfl (fun ls' hl' => w ls' (ev_st1 (lc := a0 :: some (.int x) :: r) (i := 1) (w := .int (x + Int32.ofInt n)) (ev_pvs (i := 0) rfl hq) hl'))
theorem ev_istore_2 {a0 a1 a2 : Option Value} {r : ev_L} {x : Int32} (hd : decode cc pc = .ok (.istore_n 2, 1)) (hp : pc + 1 = pc') (hn : 2 < nL) (hq : ev_c1 a1 = true) (k : Ev l d own nm cc nL ret pc' (a0 :: a1 :: some (.int x) :: r) st h v h') : Ev l d own nm cc nL ret pc (a0 :: a1 :: a2 :: r) (.int x :: st) h v h' := by
  subst hp
  exact ev_loc (lc := a0 :: a1 :: a2 :: r) (lc' := a0 :: a1 :: some (.int x) :: r) (fun o => (o.tl.sto (i := 2) (ok_int _ _) rfl)) (fun p e R s m args below meth c H locs cells Q ls ad C hl w => lv_istore_n C.1 C.2.1 hd rfl hl.has hn rfl (fun ls' hl' => w ls' (ev_st1 (lc := a0 :: a1 :: a2 :: r) (i := 2) (w := .int x) (ev_pvs (i := 1) rfl hq) hl'))) k
theorem ev_lstore_2 {a0 a1 a2 a3 : Option Value} {r : ev_L} {x : Int64} (hd : decode cc pc = .ok (.lstore_n 2, 1)) (hp : pc + 1 = pc') (hn : 2 + 1 < nL) (hq : ev_c1 a1 = true) (k : Ev l d own nm cc nL ret pc' (a0 :: a1 :: some (.long x) :: none :: r) st h v h') : Ev l d own nm cc nL ret pc (a0 :: a1 :: a2 :: a3 :: r) (.long x :: st) h v h' := by
  subst hp
  exact ev_loc (lc := a0 :: a1 :: a2 :: a3 :: r) (lc' := a0 :: a1 :: some (.long x) :: none :: r) (fun o => ((o.tl.sto (i := 2) (ok_long _ _) rfl).no 3)) (fun p e R s m args below meth c H locs cells Q ls ad C hl w => lv_lstore_n C.1 C.2.1 hd rfl hl.has hn rfl (fun ls' hl' => w ls' (ev_st2 (lc := a0 :: a1 :: a2 :: a3 :: r) (i := 2) (w := .long x) (ev_pvs (i := 1) rfl hq) hl'))) k
theorem ev_astore_2 {a0 a1 a2 : Option Value} {r : ev_L} {x : Nat} (hd : decode cc pc = .ok (.astore_n 2, 1)) (hp : pc + 1 = pc') (hn : 2 < nL) (hq : ev_c1 a1 = true) (k : Ev l d own nm cc nL ret pc' (a0 :: a1 :: some (.ref x) :: r) st h v h') : Ev l d own nm cc nL ret pc (a0 :: a1 :: a2 :: r) (.ref x :: st) h v h' := by
  subst hp
  exact ev_loc (lc := a0 :: a1 :: a2 :: r) (lc' := a0 :: a1 :: some (.ref x) :: r) (fun o => (o.tl.sto (i := 2) (o.hd) rfl)) (fun p e R s m args below meth c H locs cells Q ls ad C hl w => lv_astore_n C.1 C.2.1 hd rfl hl.has hn rfl (fun ls' hl' => w ls' (ev_st1 (lc := a0 :: a1 :: a2 :: r) (i := 2) (w := .ref x) (ev_pvs (i := 1) rfl hq) hl'))) k
theorem ev_astore_2N {a0 a1 a2 : Option Value} {r : ev_L} (hd : decode cc pc = .ok (.astore_n 2, 1)) (hp : pc + 1 = pc') (hn : 2 < nL) (hq : ev_c1 a1 = true) (k : Ev l d own nm cc nL ret pc' (a0 :: a1 :: some (.null) :: r) st h v h') : Ev l d own nm cc nL ret pc (a0 :: a1 :: a2 :: r) (.null :: st) h v h' := by
  subst hp
  exact ev_loc (lc := a0 :: a1 :: a2 :: r) (lc' := a0 :: a1 :: some (.null) :: r) (fun o => (o.tl.sto (i := 2) (ok_null _) rfl)) (fun p e R s m args below meth c H locs cells Q ls ad C hl w => lv_astore_nN C.1 C.2.1 hd rfl hl.has hn rfl (fun ls' hl' => w ls' (ev_st1 (lc := a0 :: a1 :: a2 :: r) (i := 2) (w := .null) (ev_pvs (i := 1) rfl hq) hl'))) k
theorem ev_iinc_2 {a0 a1 : Option Value} {r : ev_L} {x : Int32} {n : Int} (c : Int32) (hd : decode cc pc = .ok (.iinc 2 n, 3)) (hp : pc + 3 = pc') (hc : Int32.ofInt n = c) (hn : 2 < nL) (hq : ev_c1 a1 = true) (k : Ev l d own nm cc nL ret pc' (a0 :: a1 :: some (.int (x + c)) :: r) st h v h') : Ev l d own nm cc nL ret pc (a0 :: a1 :: some (.int x) :: r) st h v h' := by
  subst hp
  subst hc
  refine ev_loc (lc := a0 :: a1 :: some (.int x) :: r) (lc' := a0 :: a1 :: some (.int (x + Int32.ofInt n)) :: r) (fun o => o.sto (i := 2) (ok_int _ _) rfl) (fun p e R s m args below meth c H locs cells Q ls ad C hl w => ?_) k
  obtain ⟨kx, hk⟩ := List.getElem?_of_mem (ev_as_in (ad := ad) (a0 :: a1 :: some (.int x) :: r) 0 2 (.int x) rfl)
  rw [Nat.zero_add] at hk
  exact lv_iinc C.1 C.2.1 hd hl.has hk rfl hn rfl (fun ls' hl' => w ls' (ev_st1 (lc := a0 :: a1 :: some (.int x) :: r) (i := 2) (w := .int (x + Int32.ofInt n)) (ev_pvs (i := 1) rfl hq) hl'))
theorem ev_istore_3 {a0 a1 a2 a3 : Option Value} {r : ev_L} {x : Int32} (hd : decode cc pc = .ok (.istore_n 3, 1)) (hp : pc + 1 = pc') (hn : 3 < nL) (hq : ev_c1 a2 = true) (k : Ev l d own nm cc nL ret pc' (a0 :: a1 :: a2 :: some (.int x) :: r) st h v h') : Ev l d own nm cc nL ret pc (a0 :: a1 :: a2 :: a3 :: r) (.int x :: st) h v h' := by
  subst hp
  exact ev_loc (lc := a0 :: a1 :: a2 :: a3 :: r) (lc' := a0 :: a1 :: a2 :: some (.int x) :: r) (fun o => (o.tl.sto (i := 3) (ok_int _ _) rfl)) (fun p e R s m args below meth c H locs cells Q ls ad C hl w => lv_istore_n C.1 C.2.1 hd rfl hl.has hn rfl (fun ls' hl' => w ls' (ev_st1 (lc := a0 :: a1 :: a2 :: a3 :: r) (i := 3) (w := .int x) (ev_pvs (i := 2) rfl hq) hl'))) k
theorem ev_lstore_3 {a0 a1 a2 a3 a4 : Option Value} {r : ev_L} {x : Int64} (hd : decode cc pc = .ok (.lstore_n 3, 1)) (hp : pc + 1 = pc') (hn : 3 + 1 < nL) (hq : ev_c1 a2 = true) (k : Ev l d own nm cc nL ret pc' (a0 :: a1 :: a2 :: some (.long x) :: none :: r) st h v h') : Ev l d own nm cc nL ret pc (a0 :: a1 :: a2 :: a3 :: a4 :: r) (.long x :: st) h v h' := by
  subst hp
  exact ev_loc (lc := a0 :: a1 :: a2 :: a3 :: a4 :: r) (lc' := a0 :: a1 :: a2 :: some (.long x) :: none :: r) (fun o => ((o.tl.sto (i := 3) (ok_long _ _) rfl).no 4)) (fun p e R s m args below meth c H locs cells Q ls ad C hl w => lv_lstore_n C.1 C.2.1 hd rfl hl.has hn rfl (fun ls' hl' => w ls' (ev_st2 (lc := a0 :: a1 :: a2 :: a3 :: a4 :: r) (i := 3) (w := .long x) (ev_pvs (i := 2) rfl hq) hl'))) k
theorem ev_astore_3 {a0 a1 a2 a3 : Option Value} {r : ev_L} {x : Nat} (hd : decode cc pc = .ok (.astore_n 3, 1)) (hp : pc + 1 = pc') (hn : 3 < nL) (hq : ev_c1 a2 = true) (k : Ev l d own nm cc nL ret pc' (a0 :: a1 :: a2 :: some (.ref x) :: r) st h v h') : Ev l d own nm cc nL ret pc (a0 :: a1 :: a2 :: a3 :: r) (.ref x :: st) h v h' := by
  subst hp
  exact ev_loc (lc := a0 :: a1 :: a2 :: a3 :: r) (lc' := a0 :: a1 :: a2 :: some (.ref x) :: r) (fun o => (o.tl.sto (i := 3) (o.hd) rfl)) (fun p e R s m args below meth c H locs cells Q ls ad C hl w => lv_astore_n C.1 C.2.1 hd rfl hl.has hn rfl (fun ls' hl' => w ls' (ev_st1 (lc := a0 :: a1 :: a2 :: a3 :: r) (i := 3) (w := .ref x) (ev_pvs (i := 2) rfl hq) hl'))) k
theorem ev_astore_3N {a0 a1 a2 a3 : Option Value} {r : ev_L} (hd : decode cc pc = .ok (.astore_n 3, 1)) (hp : pc + 1 = pc') (hn : 3 < nL) (hq : ev_c1 a2 = true) (k : Ev l d own nm cc nL ret pc' (a0 :: a1 :: a2 :: some (.null) :: r) st h v h') : Ev l d own nm cc nL ret pc (a0 :: a1 :: a2 :: a3 :: r) (.null :: st) h v h' := by
  subst hp
  exact ev_loc (lc := a0 :: a1 :: a2 :: a3 :: r) (lc' := a0 :: a1 :: a2 :: some (.null) :: r) (fun o => (o.tl.sto (i := 3) (ok_null _) rfl)) (fun p e R s m args below meth c H locs cells Q ls ad C hl w => lv_astore_nN C.1 C.2.1 hd rfl hl.has hn rfl (fun ls' hl' => w ls' (ev_st1 (lc := a0 :: a1 :: a2 :: a3 :: r) (i := 3) (w := .null) (ev_pvs (i := 2) rfl hq) hl'))) k
theorem ev_iinc_3 {a0 a1 a2 : Option Value} {r : ev_L} {x : Int32} {n : Int} (c : Int32) (hd : decode cc pc = .ok (.iinc 3 n, 3)) (hp : pc + 3 = pc') (hc : Int32.ofInt n = c) (hn : 3 < nL) (hq : ev_c1 a2 = true) (k : Ev l d own nm cc nL ret pc' (a0 :: a1 :: a2 :: some (.int (x + c)) :: r) st h v h') : Ev l d own nm cc nL ret pc (a0 :: a1 :: a2 :: some (.int x) :: r) st h v h' := by
  subst hp
  subst hc
  refine ev_loc (lc := a0 :: a1 :: a2 :: some (.int x) :: r) (lc' := a0 :: a1 :: a2 :: some (.int (x + Int32.ofInt n)) :: r) (fun o => o.sto (i := 3) (ok_int _ _) rfl) (fun p e R s m args below meth c H locs cells Q ls ad C hl w => ?_) k
  obtain ⟨kx, hk⟩ := List.getElem?_of_mem (ev_as_in (ad := ad) (a0 :: a1 :: a2 :: some (.int x) :: r) 0 3 (.int x) rfl)
  rw [Nat.zero_add] at hk
  exact lv_iinc C.1 C.2.1 hd hl.has hk rfl hn rfl (fun ls' hl' => w ls' (ev_st1 (lc := a0 :: a1 :: a2 :: some (.int x) :: r) (i := 3) (w := .int (x + Int32.ofInt n)) (ev_pvs (i := 2) rfl hq) hl'))
theorem ev_istore_4 {a0 a1 a2 a3 a4 : Option Value} {r : ev_L} {x : Int32} (hd : decode cc pc = .ok (.istore 4, 2)) (hp : pc + 2 = pc') (hn : 4 < nL) (hq : ev_c1 a3 = true) (k : Ev l d own nm cc nL ret pc' (a0 :: a1 :: a2 :: a3 :: some (.int x) :: r) st h v h') : Ev l d own nm cc nL ret pc (a0 :: a1 :: a2 :: a3 :: a4 :: r) (.int x :: st) h v h' := by
  subst hp
  exact ev_loc (lc := a0 :: a1 :: a2 :: a3 :: a4 :: r) (lc' := a0 :: a1 :: a2 :: a3 :: some (.int x) :: r) (fun o => (o.tl.sto (i := 4) (ok_int _ _) rfl)) (fun p e R s m args below meth c H locs cells Q ls ad C hl w => lv_istore C.1 C.2.1 hd hl.has hn rfl (fun ls' hl' => w ls' (ev_st1 (lc := a0 :: a1 :: a2 :: a3 :: a4 :: r) (i := 4) (w := .int x) (ev_pvs (i := 3) rfl hq) hl'))) k
theorem ev_lstore_4 {a0 a1 a2 a3 a4 a5 : Option Value} {r : ev_L} {x : Int64} (hd : decode cc pc = .ok (.lstore 4, 2)) (hp : pc + 2 = pc') (hn : 4 + 1 < nL) (hq : ev_c1 a3 = true) (k : Ev l d own nm cc nL ret pc' (a0 :: a1 :: a2 :: a3 :: some (.long x) :: none :: r) st h v h') : Ev l d own nm cc nL ret pc (a0 :: a1 :: a2 :: a3 :: a4 :: a5 :: r) (.long x :: st) h v h' := by
  subst hp
  exact ev_loc (lc := a0 :: a1 :: a2 :: a3 :: a4 :: a5 :: r) (lc' := a0 :: a1 :: a2 :: a3 :: some (.long x) :: none :: r) (fun o => ((o.tl.sto (i := 4) (ok_long _ _) rfl).no 5)) (fun p e R s m args below meth c H locs cells Q ls ad C hl w => lv_lstore C.1 C.2.1 hd hl.has hn rfl (fun ls' hl' => w ls' (ev_st2 (lc := a0 :: a1 :: a2 :: a3 :: a4 :: a5 :: r) (i := 4) (w := .long x) (ev_pvs (i := 3) rfl hq) hl'))) k
theorem ev_astore_4 {a0 a1 a2 a3 a4 : Option Value} {r : ev_L} {x : Nat} (hd : decode cc pc = .ok (.astore 4, 2)) (hp : pc + 2 = pc') (hn : 4 < nL) (hq : ev_c1 a3 = true) (k : Ev l d own nm cc nL ret pc' (a0 :: a1 :: a2 :: a3 :: some (.ref x) :: r) st h v h') : Ev l d own nm cc nL ret pc (a0 :: a1 :: a2 :: a3 :: a4 :: r) (.ref x :: st) h v h' := by
  subst hp
  exact ev_loc (lc := a0 :: a1 :: a2 :: a3 :: a4 :: r) (lc' := a0 :: a1 :: a2 :: a3 :: some (.ref x) :: r) (fun o => (o.tl.sto (i := 4) (o.hd) rfl)) (fun p e R s m args below meth c H locs cells Q ls ad C hl w => lv_astore C.1 C.2.1 hd hl.has hn rfl (fun ls' hl' => w ls' (ev_st1 (lc := a0 :: a1 :: a2 :: a3 :: a4 :: r) (i := 4) (w := .ref x) (ev_pvs (i := 3) rfl hq) hl'))) k
theorem ev_astore_4N {a0 a1 a2 a3 a4 : Option Value} {r : ev_L} (hd : decode cc pc = .ok (.astore 4, 2)) (hp : pc + 2 = pc') (hn : 4 < nL) (hq : ev_c1 a3 = true) (k : Ev l d own nm cc nL ret pc' (a0 :: a1 :: a2 :: a3 :: some (.null) :: r) st h v h') : Ev l d own nm cc nL ret pc (a0 :: a1 :: a2 :: a3 :: a4 :: r) (.null :: st) h v h' := by
  subst hp
  exact ev_loc (lc := a0 :: a1 :: a2 :: a3 :: a4 :: r) (lc' := a0 :: a1 :: a2 :: a3 :: some (.null) :: r) (fun o => (o.tl.sto (i := 4) (ok_null _) rfl)) (fun p e R s m args below meth c H locs cells Q ls ad C hl w => lv_astoreN C.1 C.2.1 hd hl.has hn rfl (fun ls' hl' => w ls' (ev_st1 (lc := a0 :: a1 :: a2 :: a3 :: a4 :: r) (i := 4) (w := .null) (ev_pvs (i := 3) rfl hq) hl'))) k
theorem ev_iinc_4 {a0 a1 a2 a3 : Option Value} {r : ev_L} {x : Int32} {n : Int} (c : Int32) (hd : decode cc pc = .ok (.iinc 4 n, 3)) (hp : pc + 3 = pc') (hc : Int32.ofInt n = c) (hn : 4 < nL) (hq : ev_c1 a3 = true) (k : Ev l d own nm cc nL ret pc' (a0 :: a1 :: a2 :: a3 :: some (.int (x + c)) :: r) st h v h') : Ev l d own nm cc nL ret pc (a0 :: a1 :: a2 :: a3 :: some (.int x) :: r) st h v h' := by
  subst hp
  subst hc
  refine ev_loc (lc := a0 :: a1 :: a2 :: a3 :: some (.int x) :: r) (lc' := a0 :: a1 :: a2 :: a3 :: some (.int (x + Int32.ofInt n)) :: r) (fun o => o.sto (i := 4) (ok_int _ _) rfl) (fun p e R s m args below meth c H locs cells Q ls ad C hl w => ?_) k
  obtain ⟨kx, hk⟩ := List.getElem?_of_mem (ev_as_in (ad := ad) (a0 :: a1 :: a2 :: a3 :: some (.int x) :: r) 0 4 (.int x) rfl)
  rw [Nat.zero_add] at hk
  exact lv_iinc C.1 C.2.1 hd hl.has hk rfl hn rfl (fun ls' hl' => w ls' (ev_st1 (lc := a0 :: a1 :: a2 :: a3 :: some (.int x) :: r) (i := 4) (w := .int (x + Int32.ofInt n)) (ev_pvs (i := 3) rfl hq) hl'))
theorem ev_istore_5 {a0 a1 a2 a3 a4 a5 : Option Value} {r : ev_L} {x : Int32} (hd : decode cc pc = .ok (.istore 5, 2)) (hp : pc + 2 = pc') (hn : 5 < nL) (hq : ev_c1 a4 = true) (k : Ev l d own nm cc nL ret pc' (a0 :: a1 :: a2 :: a3 :: a4 :: some (.int x) :: r) st h v h') : Ev l d own nm cc nL ret pc (a0 :: a1 :: a2 :: a3 :: a4 :: a5 :: r) (.int x :: st) h v h' := by
  subst hp
  exact ev_loc (lc := a0 :: a1 :: a2 :: a3 :: a4 :: a5 :: r) (lc' := a0 :: a1 :: a2 :: a3 :: a4 :: some (.int x) :: r) (fun o => (o.tl.sto (i := 5) (ok_int _ _) rfl)) (fun p e R s m args below meth c H locs cells Q ls ad C hl w => lv_istore C.1 C.2.1 hd hl.has hn rfl (fun ls' hl' => w ls' (ev_st1 (lc := a0 :: a1 :: a2 :: a3 :: a4 :: a5 :: r) (i := 5) (w := .int x) (ev_pvs (i := 4) rfl hq) hl'))) k
theorem ev_lstore_5 {a0 a1 a2 a3 a4 a5 a6 : Option Value} {r : ev_L} {x : Int64} (hd : decode cc pc = .ok (.lstore 5, 2)) (hp : pc + 2 = pc') (hn : 5 + 1 < nL) (hq : ev_c1 a4 = true) (k : Ev l d own nm cc nL ret pc' (a0 :: a1 :: a2 :: a3 :: a4 :: some (.long x) :: none :: r) st h v h') : Ev l d own nm cc nL ret pc (a0 :: a1 :: a2 :: a3 :: a4 :: a5 :: a6 :: r) (.long x :: st) h v h' := by
  subst hp
  exact ev_loc (lc := a0 :: a1 :: a2 :: a3 :: a4 :: a5 :: a6 :: r) (lc' := a0 :: a1 :: a2 :: a3 :: a4 :: some (.long x) :: none :: r) (fun o => ((o.tl.sto (i := 5) (ok_long _ _) rfl).no 6)) (fun p e R s m args below meth c H locs cells Q ls ad C hl w => lv_lstore C.1 C.2.1 hd hl.has hn rfl (fun ls' hl' => w ls' (ev_st2 (lc := a0 :: a1 :: a2 :: a3 :: a4 :: a5 :: a6 :: r) (i := 5) (w := .long x) (ev_pvs (i := 4) rfl hq) hl'))) k
theorem ev_astore_5 {a0 a1 a2 a3 a4 a5 : Option Value} {r : ev_L} {x : Nat} (hd : decode cc pc = .ok (.astore 5, 2)) (hp : pc + 2 = pc') (hn : 5 < nL) (hq : ev_c1 a4 = true) (k : Ev l d own nm cc nL ret pc' (a0 :: a1 :: a2 :: a3 :: a4 :: some (.ref x) :: r) st h v h') : Ev l d own nm cc nL ret pc (a0 :: a1 :: a2 :: a3 :: a4 :: a5 :: r) (.ref x :: st) h v h' := by
  subst hp
  exact ev_loc (lc := a0 :: a1 :: a2 :: a3 :: a4 :: a5 :: r) (lc' := a0 :: a1 :: a2 :: a3 :: a4 :: some (.ref x) :: r) (fun o => (o.tl.sto (i := 5) (o.hd) rfl)) (fun p e R s m args below meth c H locs cells Q ls ad C hl w => lv_astore C.1 C.2.1 hd hl.has hn rfl (fun ls' hl' => w ls' (ev_st1 (lc := a0 :: a1 :: a2 :: a3 :: a4 :: a5 :: r) (i := 5) (w := .ref x) (ev_pvs (i := 4) rfl hq) hl'))) k
theorem ev_astore_5N {a0 a1 a2 a3 a4 a5 : Option Value} {r : ev_L} (hd : decode cc pc = .ok (.astore 5, 2)) (hp : pc + 2 = pc') (hn : 5 < nL) (hq : ev_c1 a4 = true) (k : Ev l d own nm cc nL ret pc' (a0 :: a1 :: a2 :: a3 :: a4 :: some (.null) :: r) st h v h') : Ev l d own nm cc nL ret pc (a0 :: a1 :: a2 :: a3 :: a4 :: a5 :: r) (.null :: st) h v h' := by
  subst hp
  exact ev_loc (lc := a0 :: a1 :: a2 :: a3 :: a4 :: a5 :: r) (lc' := a0 :: a1 :: a2 :: a3 :: a4 :: some (.null) :: r) (fun o => (o.tl.sto (i := 5) (ok_null _) rfl)) (fun p e R s m args below meth c H locs cells Q ls ad C hl w => lv_astoreN C.1 C.2.1 hd hl.has hn rfl (fun ls' hl' => w ls' (ev_st1 (lc := a0 :: a1 :: a2 :: a3 :: a4 :: a5 :: r) (i := 5) (w := .null) (ev_pvs (i := 4) rfl hq) hl'))) k
theorem ev_iinc_5 {a0 a1 a2 a3 a4 : Option Value} {r : ev_L} {x : Int32} {n : Int} (c : Int32) (hd : decode cc pc = .ok (.iinc 5 n, 3)) (hp : pc + 3 = pc') (hc : Int32.ofInt n = c) (hn : 5 < nL) (hq : ev_c1 a4 = true) (k : Ev l d own nm cc nL ret pc' (a0 :: a1 :: a2 :: a3 :: a4 :: some (.int (x + c)) :: r) st h v h') : Ev l d own nm cc nL ret pc (a0 :: a1 :: a2 :: a3 :: a4 :: some (.int x) :: r) st h v h' := by
  subst hp
  subst hc
  refine ev_loc (lc := a0 :: a1 :: a2 :: a3 :: a4 :: some (.int x) :: r) (lc' := a0 :: a1 :: a2 :: a3 :: a4 :: some (.int (x + Int32.ofInt n)) :: r) (fun o => o.sto (i := 5) (ok_int _ _) rfl) (fun p e R s m args below meth c H locs cells Q ls ad C hl w => ?_) k
  obtain ⟨kx, hk⟩ := List.getElem?_of_mem (ev_as_in (ad := ad) (a0 :: a1 :: a2 :: a3 :: a4 :: some (.int x) :: r) 0 5 (.int x) rfl)
  rw [Nat.zero_add] at hk
  exact lv_iinc C.1 C.2.1 hd hl.has hk rfl hn rfl (fun ls' hl' => w ls' (ev_st1 (lc := a0 :: a1 :: a2 :: a3 :: a4 :: some (.int x) :: r) (i := 5) (w := .int (x + Int32.ofInt n)) (ev_pvs (i := 4) rfl hq) hl'))
theorem ev_istore_6 {a0 a1 a2 a3 a4 a5 a6 : Option Value} {r : ev_L} {x : Int32} (hd : decode cc pc = .ok (.istore 6, 2)) (hp : pc + 2 = pc') (hn : 6 < nL) (hq : ev_c1 a5 = true) (k : Ev l d own nm cc nL ret pc' (a0 :: a1 :: a2 :: a3 :: a4 :: a5 :: some (.int x) :: r) st h v h') : Ev l d own nm cc nL ret pc (a0 :: a1 :: a2 :: a3 :: a4 :: a5 :: a6 :: r) (.int x :: st) h v h' := by
  subst hp
  exact ev_loc (lc := a0 :: a1 :: a2 :: a3 :: a4 :: a5 :: a6 :: r) (lc' := a0 :: a1 :: a2 :: a3 :: a4 :: a5 :: some (.int x) :: r) (fun o => (o.tl.sto (i := 6) (ok_int _ _) rfl)) (fun p e R s m args below meth c H locs cells Q ls ad C hl w => lv_istore C.1 C.2.1 hd hl.has hn rfl (fun ls' hl' => w ls' (ev_st1 (lc := a0 :: a1 :: a2 :: a3 :: a4 :: a5 :: a6 :: r) (i := 6) (w := .int x) (ev_pvs (i := 5) rfl hq) hl'))) k
theorem ev_lstore_6 {a0 a1 a2 a3 a4 a5 a6 a7 : Option Value} {r : ev_L} {x : Int64} (hd : decode cc pc = .ok (.lstore 6, 2)) (hp : pc + 2 = pc') (hn : 6 + 1 < nL) (hq : ev_c1 a5 = true) (k : Ev l d own nm cc nL ret pc' (a0 :: a1 :: a2 :: a3 :: a4 :: a5 :: some (.long x) :: none :: r) st h v h') : Ev l d own nm cc nL ret pc (a0 :: a1 :: a2 :: a3 :: a4 :: a5 :: a6 :: a7 :: r) (.long x :: st) h v h' := by
  subst hp
  exact ev_loc (lc := a0 :: a1 :: a2 :: a3 :: a4 :: a5 :: a6 :: a7 :: r) (lc' := a0 :: a1 :: a2 :: a3 :: a4 :: a5 :: some (.long x) :: none :: r) (fun o => ((o.tl.sto (i := 6) (ok_long _ _) rfl).no 7)) (fun p e R s m args below meth c H locs cells Q ls ad C hl w => lv_lstore C.1 C.2.1 hd hl.has hn rfl (fun ls' hl' => w ls' (ev_st2 (lc := a0 :: a1 :: a2 :: a3 :: a4 :: a5 :: a6 :: a7 :: r) (i := 6) (w := .long x) (ev_pvs (i := 5) rfl hq) hl'))) k
theorem ev_astore_6 {a0 a1 a2 a3 a4 a5 a6 : Option Value} {r : ev_L} {x : Nat} (hd : decode cc pc = .ok (.astore 6, 2)) (hp : pc + 2 = pc') (hn : 6 < nL) (hq : ev_c1 a5 = true) (k : Ev l d own nm cc nL ret pc' (a0 :: a1 :: a2 :: a3 :: a4 :: a5 :: some (.ref x) :: r) st h v h') : Ev l d own nm cc nL ret pc (a0 :: a1 :: a2 :: a3 :: a4 :: a5 :: a6 :: r) (.ref x :: st) h v h' := by
  subst hp
  exact ev_loc (lc := a0 :: a1 :: a2 :: a3 :: a4 :: a5 :: a6 :: r) (lc' := a0 :: a1 :: a2 :: a3 :: a4 :: a5 :: some (.ref x) :: r) (fun o => (o.tl.sto (i := 6) (o.hd) rfl)) (fun p e R s m args below meth c H locs cells Q ls ad C hl w => lv_astore C.1 C.2.1 hd hl.has hn rfl (fun ls' hl' => w ls' (ev_st1 (lc := a0 :: a1 :: a2 :: a3 :: a4 :: a5 :: a6 :: r) (i := 6) (w := .ref x) (ev_pvs (i := 5) rfl hq) hl'))) k
theorem ev_astore_6N {a0 a1 a2 a3 a4 a5 a6 : Option Value} {r : ev_L} (hd : decode cc pc = .ok (.astore 6, 2)) (hp : pc + 2 = pc') (hn : 6 < nL) (hq : ev_c1 a5 = true) (k : Ev l d own nm cc nL ret pc' (a0 :: a1 :: a2 :: a3 :: a4 :: a5 :: some (.null) :: r) st h v h') : Ev l d own nm cc nL ret pc (a0 :: a1 :: a2 :: a3 :: a4 :: a5 :: a6 :: r) (.null :: st) h v h' := by
  subst hp
  exact ev_loc (lc := a0 :: a1 :: a2 :: a3 :: a4 :: a5 :: a6 :: r) (lc' := a0 :: a1 :: a2 :: a3 :: a4 :: a5 :: some (.null) :: r) (fun o => (o.tl.sto (i := 6) (ok_null _) rfl)) (fun p e R s m args below meth c H locs cells Q ls ad C hl w => lv_astoreN C.1 C.2.1 hd hl.has hn rfl (fun ls' hl' => w ls' (ev_st1 (lc := a0 :: a1 :: a2 :: a3 :: a4 :: a5 :: a6 :: r) (i := 6) (w := .null) (ev_pvs (i := 5) rfl hq) hl'))) k
theorem ev_iinc_6 {a0 a1 a2 a3 a4 a5 : Option Value} {r : ev_L} {x : Int32} {n : Int} (c : Int32) (hd : decode cc pc = .ok (.iinc 6 n, 3)) (hp : pc + 3 = pc') (hc : Int32.ofInt n = c) (hn : 6 < nL) (hq : ev_c1 a5 = true) (k : Ev l d own nm cc nL ret pc' (a0 :: a1 :: a2 :: a3 :: a4 :: a5 :: some (.int (x + c)) :: r) st h v h') : Ev l d own nm cc nL ret pc (a0 :: a1 :: a2 :: a3 :: a4 :: a5 :: some (.int x) :: r) st h v h' := by
  subst hp
  subst hc
  refine ev_loc (lc := a0 :: a1 :: a2 :: a3 :: a4 :: a5 :: some (.int x) :: r) (lc' := a0 :: a1 :: a2 :: a3 :: a4 :: a5 :: some (.int (x + Int32.ofInt n)) :: r) (fun o => o.sto (i := 6) (ok_int _ _) rfl) (fun p e R s m args below meth c H locs cells Q ls ad C hl w => ?_) k
  obtain ⟨kx, hk⟩ := List.getElem?_of_mem (ev_as_in (ad := ad) (a0 :: a1 :: a2 :: a3 :: a4 :: a5 :: some (.int x) :: r) 0 6 (.int x) rfl)
  rw [Nat.zero_add] at hk
  exact lv_iinc C.1 C.2.1 hd hl.has hk rfl hn rfl (fun ls' hl' => w ls' (ev_st1 (lc := a0 :: a1 :: a2 :: a3 :: a4 :: a5 :: some (.int x) :: r) (i := 6) (w := .int (x + Int32.ofInt n)) (ev_pvs (i := 5) rfl hq) hl'))
theorem ev_istore_7 {a0 a1 a2 a3 a4 a5 a6 a7 : Option Value} {r : ev_L} {x : Int32} (hd : decode cc pc = .ok (.istore 7, 2)) (hp : pc + 2 = pc') (hn : 7 < nL) (hq : ev_c1 a6 = true) (k : Ev l d own nm cc nL ret pc' (a0 :: a1 :: a2 :: a3 :: a4 :: a5 :: a6 :: some (.int x) :: r) st h v h') : Ev l d own nm cc nL ret pc (a0 :: a1 :: a2 :: a3 :: a4 :: a5 :: a6 :: a7 :: r) (.int x :: st) h v h' := by
  subst hp
  exact ev_loc (lc := a0 :: a1 :: a2 :: a3 :: a4 :: a5 :: a6 :: a7 :: r) (lc' := a0 :: a1 :: a2 :: a3 :: a4 :: a5 :: a6 :: some (.int x) :: r) (fun o => (o.tl.sto (i := 7) (ok_int _ _) rfl)) (fun p e R s m args below meth c H locs cells Q ls ad C hl w => lv_istore C.1 C.2.1 hd hl.has hn rfl (fun ls' hl' => w ls' (ev_st1 (lc := a0 :: a1 :: a2 :: a3 :: a4 :: a5 :: a6 :: a7 :: r) (i := 7) (w := .int x) (ev_pvs (i := 6) rfl hq) hl'))) k
theorem ev_lstore_7 {a0 a1 a2 a3 a4 a5 a6 a7 a8 : Option Value} {r : ev_L} {x : Int64} (hd : decode cc pc = .ok (.lstore 7, 2)) (hp : pc + 2 = pc') (hn : 7 + 1 < nL) (hq : ev_c1 a6 = true) (k : Ev l d own nm cc nL ret pc' (a0 :: a1 :: a2 :: a3 :: a4 :: a5 :: a6 :: some (.long x) :: none :: r) st h v h') : Ev l d own nm cc nL ret pc (a0 :: a1 :: a2 :: a3 :: a4 :: a5 :: a6 :: a7 :: a8 :: r) (.long x :: st) h v h' := by
  subst hp
  exact ev_loc (lc := a0 :: a1 :: a2 :: a3 :: a4 :: a5 :: a6 :: a7 :: a8 :: r) (lc' := a0 :: a1 :: a2 :: a3 :: a4 :: a5 :: a6 :: some (.long x) :: none :: r) (fun o => ((o.tl.sto (i := 7) (ok_long _ _) rfl).no 8)) (fun p e R s m args below meth c H locs cells Q ls ad C hl w => lv_lstore C.1 C.2.1 hd hl.has hn rfl (fun ls' hl' => w ls' (ev_st2 (lc := a0 :: a1 :: a2 :: a3 :: a4 :: a5 :: a6 :: a7 :: a8 :: r) (i := 7) (w := .long x) (ev_pvs (i := 6) rfl hq) hl'))) k
theorem ev_astore_7 {a0 a1 a2 a3 a4 a5 a6 a7 : Option Value} {r : ev_L} {x : Nat} (hd : decode cc pc = .ok (.astore 7, 2)) (hp : pc + 2 = pc') (hn : 7 < nL) (hq : ev_c1 a6 = true) (k : Ev l d own nm cc nL ret pc' (a0 :: a1 :: a2 :: a3 :: a4 :: a5 :: a6 :: some (.ref x) :: r) st h v h') : Ev l d own nm cc nL ret pc (a0 :: a1 :: a2 :: a3 :: a4 :: a5 :: a6 :: a7 :: r) (.ref x :: st) h v h' := by
  subst hp
  exact ev_loc (lc := a0 :: a1 :: a2 :: a3 :: a4 :: a5 :: a6 :: a7 :: r) (lc' := a0 :: a1 :: a2 :: a3 :: a4 :: a5 :: a6 :: some (.ref x) :: r) (fun o => (o.tl.sto (i := 7) (o.hd) rfl)) (fun p e R s m args below meth c H locs cells Q ls ad C hl w => lv_astore C.1 C.2.1 hd hl.has hn rfl (fun ls' hl' => w ls' (ev_st1 (lc := a0 :: a1 :: a2 :: a3 :: a4 :: a5 :: a6 :: a7 :: r) (i := 7) (w := .ref x) (ev_pvs (i := 6) rfl hq) hl'))) k
theorem ev_astore_7N {a0 a1 a2 a3 a4 a5 a6 a7 : Option Value} {r : ev_L} (hd : decode cc pc = .ok (.astore 7, 2)) (hp : pc + 2 = pc') (hn : 7 < nL) (hq : ev_c1 a6 = true) (k : Ev l d own nm cc nL ret pc' (a0 :: a1 :: a2 :: a3 :: a4 :: a5 :: a6 :: some (.null) :: r) st h v h') : Ev l d own nm cc nL ret pc (a0 :: a1 :: a2 :: a3 :: a4 :: a5 :: a6 :: a7 :: r) (.null :: st) h v h' := by
  subst hp
  exact ev_loc (lc := a0 :: a1 :: a2 :: a3 :: a4 :: a5 :: a6 :: a7 :: r) (lc' := a0 :: a1 :: a2 :: a3 :: a4 :: a5 :: a6 :: some (.null) :: r) (fun o => (o.tl.sto (i := 7) (ok_null _) rfl)) (fun p e R s m args below meth c H locs cells Q ls ad C hl w => lv_astoreN C.1 C.2.1 hd hl.has hn rfl (fun ls' hl' => w ls' (ev_st1 (lc := a0 :: a1 :: a2 :: a3 :: a4 :: a5 :: a6 :: a7 :: r) (i := 7) (w := .null) (ev_pvs (i := 6) rfl hq) hl'))) k
theorem ev_iinc_7 {a0 a1 a2 a3 a4 a5 a6 : Option Value} {r : ev_L} {x : Int32} {n : Int} (c : Int32) (hd : decode cc pc = .ok (.iinc 7 n, 3)) (hp : pc + 3 = pc') (hc : Int32.ofInt n = c) (hn : 7 < nL) (hq : ev_c1 a6 = true) (k : Ev l d own nm cc nL ret pc' (a0 :: a1 :: a2 :: a3 :: a4 :: a5 :: a6 :: some (.int (x + c)) :: r) st h v h') : Ev l d own nm cc nL ret pc (a0 :: a1 :: a2 :: a3 :: a4 :: a5 :: a6 :: some (.int x) :: r) st h v h' := by
  subst hp
  subst hc
  refine ev_loc (lc := a0 :: a1 :: a2 :: a3 :: a4 :: a5 :: a6 :: some (.int x) :: r) (lc' := a0 :: a1 :: a2 :: a3 :: a4 :: a5 :: a6 :: some (.int (x + Int32.ofInt n)) :: r) (fun o => o.sto (i := 7) (ok_int _ _) rfl) (fun p e R s m args below meth c H locs cells Q ls ad C hl w => ?_) k
  obtain ⟨kx, hk⟩ := List.getElem?_of_mem (ev_as_in (ad := ad) (a0 :: a1 :: a2 :: a3 :: a4 :: a5 :: a6 :: some (.int x) :: r) 0 7 (.int x) rfl)
  rw [Nat.zero_add] at hk
  exact lv_iinc C.1 C.2.1 hd hl.has hk rfl hn rfl (fun ls' hl' => w ls' (ev_st1 (lc := a0 :: a1 :: a2 :: a3 :: a4 :: a5 :: a6 :: some (.int x) :: r) (i := 7) (w := .int (x + Int32.ofInt n)) (ev_pvs (i := 6) rfl hq) hl'))
theorem ev_istore_8 {a0 a1 a2 a3 a4 a5 a6 a7 a8 : Option Value} {r : ev_L} {x : Int32} (hd : decode cc pc = .ok (.istore 8, 2)) (hp : pc + 2 = pc') (hn : 8 < nL) (hq : ev_c1 a7 = true) (k : Ev l d own nm cc nL ret pc' (a0 :: a1 :: a2 :: a3 :: a4 :: a5 :: a6 :: a7 :: some (.int x) :: r) st h v h') : Ev l d own nm cc nL ret pc (a0 :: a1 :: a2 :: a3 :: a4 :: a5 :: a6 :: a7 :: a8 :: r) (.int x :: st) h v h' := by
  subst hp
  exact ev_loc (lc := a0 :: a1 :: a2 :: a3 :: a4 :: a5 :: a6 :: a7 :: a8 :: r) (lc' := a0 :: a1 :: a2 :: a3 :: a4 :: a5 :: a6 :: a7 :: some (.int x) :: r) (fun o => (o.tl.sto (i := 8) (ok_int _ _) rfl)) (fun p e R s m args below meth c H locs cells Q ls ad C hl w => lv_istore C.1 C.2.1 hd hl.has hn rfl (fun ls' hl' => w ls' (ev_st1 (lc := a0 :: a1 :: a2 :: a3 :: a4 :: a5 :: a6 :: a7 :: a8 :: r) (i := 8) (w := .int x) (ev_pvs (i := 7) rfl hq) hl'))) k
theorem ev_lstore_8 {a0 a1 a2 a3 a4 a5 a6 a7 a8 a9 : Option Value} {r : ev_L} {x : Int64} (hd : decode cc pc = .ok (.lstore 8, 2)) (hp : pc + 2 = pc') (hn : 8 + 1 < nL) (hq : ev_c1 a7 = true) (k : Ev l d own nm cc nL ret pc' (a0 :: a1 :: a2 :: a3 :: a4 :: a5 :: a6 :: a7 :: some (.long x) :: none :: r) st h v h') : Ev l d own nm cc nL ret pc (a0 :: a1 :: a2 :: a3 :: a4 :: a5 :: a6 :: a7 :: a8 :: a9 :: r) (.long x :: st) h v h' := by
  subst hp
  exact ev_loc (lc := a0 :: a1 :: a2 :: a3 :: a4 :: a5 :: a6 :: a7 :: a8 :: a9 :: r) (lc' := a0 :: a1 :: a2 :: a3 :: a4 :: a5 :: a6 :: a7 :: some (.long x) :: none :: r) (fun o => ((o.tl.sto (i := 8) (ok_long _ _) rfl).no 9)) (fun p e R s m args below meth c H locs cells Q ls ad C hl w => lv_lstore C.1 C.2.1 hd hl.has hn rfl (fun ls' hl' => w ls' (ev_st2 (lc := a0 :: a1 :: a2 :: a3 :: a4 :: a5 :: a6 :: a7 :: a8 :: a9 :: r) (i := 8) (w := .long x) (ev_pvs (i := 7) rfl hq) hl'))) k
theorem ev_astore_8 {a0 a1 a2 a3 a4 a5 a6 a7 a8 : Option Value} {r : ev_L} {x : Nat} (hd : decode cc pc = .ok (.astore 8, 2)) (hp : pc + 2 = pc') (hn : 8 < nL) (hq : ev_c1 a7 = true) (k : Ev l d own nm cc nL ret pc' (a0 :: a1 :: a2 :: a3 :: a4 :: a5 :: a6 :: a7 :: some (.ref x) :: r) st h v h') : Ev l d own nm cc nL ret pc (a0 :: a1 :: a2 :: a3 :: a4 :: a5 :: a6 :: a7 :: a8 :: r) (.ref x :: st) h v h' := by
  subst hp
  exact ev_loc (lc := a0 :: a1 :: a2 :: a3 :: a4 :: a5 :: a6 :: a7 :: a8 :: r) (lc' := a0 :: a1 :: a2 :: a3 :: a4 :: a5 :: a6 :: a7 :: some (.ref x) :: r) (fun o => (o.tl.sto (i := 8) (o.hd) rfl)) (fun p e R s m args below meth c H locs cells Q ls ad C hl w => lv_astore C.1 C.2.1 hd hl.has hn rfl (fun ls' hl' => w ls' (ev_st1 (lc := a0 :: a1 :: a2 :: a3 :: a4 :: a5 :: a6 :: a7 :: a8 :: r) (i := 8) (w := .ref x) (ev_pvs (i := 7) rfl hq) hl'))) k
theorem ev_astore_8N {a0 a1 a2 a3 a4 a5 a6 a7 a8 : Option Value} {r : ev_L} (hd : decode cc pc = .ok (.astore 8, 2)) (hp : pc + 2 = pc') (hn : 8 < nL) (hq : ev_c1 a7 = true) (k : Ev l d own nm cc nL ret pc' (a0 :: a1 :: a2 :: a3 :: a4 :: a5 :: a6 :: a7 :: some (.null) :: r) st h v h') : Ev l d own nm cc nL ret pc (a0 :: a1 :: a2 :: a3 :: a4 :: a5 :: a6 :: a7 :: a8 :: r) (.null :: st) h v h' := by
  subst hp
  exact ev_loc (lc := a0 :: a1 :: a2 :: a3 :: a4 :: a5 :: a6 :: a7 :: a8 :: r) (lc' := a0 :: a1 :: a2 :: a3 :: a4 :: a5 :: a6 :: a7 :: some (.null) :: r) (fun o => (o.tl.sto (i := 8) (ok_null _) rfl)) (fun p e R s m args below meth c H locs cells Q ls ad C hl w => lv_astoreN C.1 C.2.1 hd hl.has hn rfl (fun ls' hl' => w ls' (ev_st1 (lc := a0 :: a1 :: a2 :: a3 :: a4 :: a5 :: a6 :: a7 :: a8 :: r) (i := 8) (w := .null) (ev_pvs (i := 7) rfl hq) hl'))) k
theorem ev_iinc_8 {a0 a1 a2 a3 a4 a5 a6 a7 : Option Value} {r : ev_L} {x : Int32} {n : Int} (c : Int32) (hd : decode cc pc = .ok (.iinc 8 n, 3)) (hp : pc + 3 = pc') (hc : Int32.ofInt n = c) (hn : 8 < nL) (hq : ev_c1 a7 = true) (k : Ev l d own nm cc nL ret pc' (a0 :: a1 :: a2 :: a3 :: a4 :: a5 :: a6 :: a7 :: some (.int (x + c)) :: r) st h v h') : Ev l d own nm cc nL ret pc (a0 :: a1 :: a2 :: a3 :: a4 :: a5 :: a6 :: a7 :: some (.int x) :: r) st h v h' := by
  subst hp
  subst hc
  refine ev_loc (lc := a0 :: a1 :: a2 :: a3 :: a4 :: a5 :: a6 :: a7 :: some (.int x) :: r) (lc' := a0 :: a1 :: a2 :: a3 :: a4 :: a5 :: a6 :: a7 :: some (.int (x + Int32.ofInt n)) :: r) (fun o => o.sto (i := 8) (ok_int _ _) rfl) (fun p e R s m args below meth c H locs cells Q ls ad C hl w => ?_) k
  obtain ⟨kx, hk⟩ := List.getElem?_of_mem (ev_as_in (ad := ad) (a0 :: a1 :: a2 :: a3 :: a4 :: a5 :: a6 :: a7 :: some (.int x) :: r) 0 8 (.int x) rfl)
  rw [Nat.zero_add] at hk
  exact lv_iinc C.1 C.2.1 hd hl.has hk rfl hn rfl (fun ls' hl' => w ls' (ev_st1 (lc := a0 :: a1 :: a2 :: a3 :: a4 :: a5 :: a6 :: a7 :: some (.int x) :: r) (i := 8) (w := .int (x + Int32.ofInt n)) (ev_pvs (i := 7) rfl hq) hl'))
theorem ev_istore_9 {a0 a1 a2 a3 a4 a5 a6 a7 a8 a9 : Option Value} {r : ev_L} {x : Int32} (hd : decode cc pc = .ok (.istore 9, 2)) (hp : pc + 2 = pc') (hn : 9 < nL) (hq : ev_c1 a8 = true) (k : Ev l d own nm cc nL ret pc' (a0 :: a1 :: a2 :: a3 :: a4 :: a5 :: a6 :: a7 :: a8 :: some (.int x) :: r) st h v h') : Ev l d own nm cc nL ret pc (a0 :: a1 :: a2 :: a3 :: a4 :: a5 :: a6 :: a7 :: a8 :: a9 :: r) (.int x :: st) h v h' := by
  subst hp
  exact ev_loc (lc := a0 :: a1 :: a2 :: a3 :: a4 :: a5 :: a6 :: a7 :: a8 :: a9 :: r) (lc' := a0 :: a1 :: a2 :: a3 :: a4 :: a5 :: a6 :: a7 :: a8 :: some (.int x) :: r) (fun o => (o.tl.sto (i := 9) (ok_int _ _) rfl)) (fun p e R s m args below meth c H locs cells Q ls ad C hl w => lv_istore C.1 C.2.1 hd hl.has hn rfl (fun ls' hl' => w ls' (ev_st1 (lc := a0 :: a1 :: a2 :: a3 :: a4 :: a5 :: a6 :: a7 :: a8 :: a9 :: r) (i := 9) (w := .int x) (ev_pvs (i := 8) rfl hq) hl'))) k
theorem ev_lstore_9 {a0 a1 a2 a3 a4 a5 a6 a7 a8 a9 a10 : Option Value} {r : ev_L} {x : Int64} (hd : decode cc pc = .ok (.lstore 9, 2)) (hp : pc + 2 = pc') (hn : 9 + 1 < nL) (hq : ev_c1 a8 = true) (k : Ev l d own nm cc nL ret pc' (a0 :: a1 :: a2 :: a3 :: a4 :: a5 :: a6 :: a7 :: a8 :: some (.long x) :: none :: r) st h v h') : Ev l d own nm cc nL ret pc (a0 :: a1 :: a2 :: a3 :: a4 :: a5 :: a6 :: a7 :: a8 :: a9 :: a10 :: r) (.long x :: st) h v h' := by
  subst hp
  exact ev_loc (lc := a0 :: a1 :: a2 :: a3 :: a4 :: a5 :: a6 :: a7 :: a8 :: a9 :: a10 :: r) (lc' := a0 :: a1 :: a2 :: a3 :: a4 :: a5 :: a6 :: a7 :: a8 :: some (.long x) :: none :: r) (fun o => ((o.tl.sto (i := 9) (ok_long _ _) rfl).no 10)) (fun p e R s m args below meth c H locs cells Q ls ad C hl w => lv_lstore C.1 C.2.1 hd hl.has hn rfl (fun ls' hl' => w ls' (ev_st2 (lc := a0 :: a1 :: a2 :: a3 :: a4 :: a5 :: a6 :: a7 :: a8 :: a9 :: a10 :: r) (i := 9) (w := .long x) (ev_pvs (i := 8) rfl hq) hl'))) k
theorem ev_astore_9 {a0 a1 a2 a3 a4 a5 a6 a7 a8 a9 : Option Value} {r : ev_L} {x : Nat} (hd : decode cc pc = .ok (.astore 9, 2)) (hp : pc + 2 = pc') (hn : 9 < nL) (hq : ev_c1 a8 = true) (k : Ev l d own nm cc nL ret pc' (a0 :: a1 :: a2 :: a3 :: a4 :: a5 :: a6 :: a7 :: a8 :: some (.ref x) :: r) st h v h') : Ev l d own nm cc nL ret pc (a0 :: a1 :: a2 :: a3 :: a4 :: a5 :: a6 :: a7 :: a8 :: a9 :: r) (.ref x :: st) h v h' := by
  subst hp
  exact ev_loc (lc := a0 :: a1 :: a2 :: a3 :: a4 :: a5 :: a6 :: a7 :: a8 :: a9 :: r) (lc' := a0 :: a1 :: a2 :: a3 :: a4 :: a5 :: a6 :: a7 :: a8 :: some (.ref x) :: r) (fun o => (o.tl.sto (i := 9) (o.hd) rfl)) (fun p e R s m args below meth c H locs cells Q ls ad C hl w => lv_astore C.1 C.2.1 hd hl.has hn rfl (fun ls' hl' => w ls' (ev_st1 (lc := a0 :: a1 :: a2 :: a3 :: a4 :: a5 :: a6 :: a7 :: a8 :: a9 :: r) (i := 9) (w := .ref x) (ev_pvs (i := 8) rfl hq) hl'))) k
theorem ev_astore_9N {a0 a1 a2 a3 a4 a5 a6 a7 a8 a9 : Option Value} {r : ev_L} (hd : decode cc pc = .ok (.astore 9, 2)) (hp : pc + 2 = pc') (hn : 9 < nL) (hq : ev_c1 a8 = true) (k : Ev l d own nm cc nL ret pc' (a0 :: a1 :: a2 :: a3 :: a4 :: a5 :: a6 :: a7 :: a8 :: some (.null) :: r) st h v h') : Ev l d own nm cc nL ret pc (a0 :: a1 :: a2 :: a3 :: a4 :: a5 :: a6 :: a7 :: a8 :: a9 :: r) (.null :: st) h v h' := by
  subst hp
  exact ev_loc (lc := a0 :: a1 :: a2 :: a3 :: a4 :: a5 :: a6 :: a7 :: a8 :: a9 :: r) (lc' := a0 :: a1 :: a2 :: a3 :: a4 :: a5 :: a6 :: a7 :: a8 :: some (.null) :: r) (fun o => (o.tl.sto (i := 9) (ok_null _) rfl)) (fun p e R s m args below meth c H locs cells Q ls ad C hl w => lv_astoreN C.1 C.2.1 hd hl.has hn rfl (fun ls' hl' => w ls' (ev_st1 (lc := a0 :: a1 :: a2 :: a3 :: a4 :: a5 :: a6 :: a7 :: a8 :: a9 :: r) (i := 9) (w := .null) (ev_pvs (i := 8) rfl hq) hl'))) k
theorem ev_iinc_9 {a0 a1 a2 a3 a4 a5 a6 a7 a8 : Option Value} {r : ev_L} {x : Int32} {n : Int} (c : Int32) (hd : decode cc pc = .ok (.iinc 9 n, 3)) (hp : pc + 3 = pc') (hc : Int32.ofInt n = c) (hn : 9 < nL) (hq : ev_c1 a8 = true) (k : Ev l d own nm cc nL ret pc' (a0 :: a1 :: a2 :: a3 :: a4 :: a5 :: a6 :: a7 :: a8 :: some (.int (x + c)) :: r) st h v h') : Ev l d own nm cc nL ret pc (a0 :: a1 :: a2 :: a3 :: a4 :: a5 :: a6 :: a7 :: a8 :: some (.int x) :: r) st h v h' := by
  subst hp
  subst hc
  refine ev_loc (lc := a0 :: a1 :: a2 :: a3 :: a4 :: a5 :: a6 :: a7 :: a8 :: some (.int x) :: r) (lc' := a0 :: a1 :: a2 :: a3 :: a4 :: a5 :: a6 :: a7 :: a8 :: some (.int (x + Int32.ofInt n)) :: r) (fun o => o.sto (i := 9) (ok_int _ _) rfl) (fun p e R s m args below meth c H locs cells Q ls ad C hl w => ?_) k
  obtain ⟨kx, hk⟩ := List.getElem?_of_mem (ev_as_in (ad := ad) (a0 :: a1 :: a2 :: a3 :: a4 :: a5 :: a6 :: a7 :: a8 :: some (.int x) :: r) 0 9 (.int x) rfl)
  rw [Nat.zero_add] at hk
  exact lv_iinc C.1 C.2.1 hd hl.has hk rfl hn rfl (fun ls' hl' => w ls' (ev_st1 (lc := a0 :: a1 :: a2 :: a3 :: a4 :: a5 :: a6 :: a7 :: a8 :: some (.int x) :: r) (i := 9) (w := .int (x + Int32.ofInt n)) (ev_pvs (i := 8) rfl hq) hl'))
theorem ev_istore_10 {a0 a1 a2 a3 a4 a5 a6 a7 a8 a9 a10 : Option Value} {r : ev_L} {x : Int32} (hd : decode cc pc = .ok (.istore 10, 2)) (hp : pc + 2 = pc') (hn : 10 < nL) (hq : ev_c1 a9 = true) (k : Ev l d own nm cc nL ret pc' (a0 :: a1 :: a2 :: a3 :: a4 :: a5 :: a6 :: a7 :: a8 :: a9 :: some (.int x) :: r) st h v h') : Ev l d own nm cc nL ret pc (a0 :: a1 :: a2 :: a3 :: a4 :: a5 :: a6 :: a7 :: a8 :: a9 :: a10 :: r) (.int x :: st) h v h' := by
  subst hp
  exact ev_loc (lc := a0 :: a1 :: a2 :: a3 :: a4 :: a5 :: a6 :: a7 :: a8 :: a9 :: a10 :: r) (lc' := a0 :: a1 :: a2 :: a3 :: a4 :: a5 :: a6 :: a7 :: a8 :: a9 :: some (.int x) :: r) (fun o => (o.tl.sto (i := 10) (ok_int _ _) rfl)) (fun p e R s m args below meth c H locs cells Q ls ad C hl w => lv_istore C.1 C.2.1 hd hl.has hn rfl (fun ls' hl' => w ls' (ev_st1 (lc := a0 :: a1 :: a2 :: a3 :: a4 :: a5 :: a6 :: a7 :: a8 :: a9 :: a10 :: r) (i := 10) (w := .int x) (ev_pvs (i := 9) rfl hq) hl'))) k
theorem ev_lstore_10 {a0 a1 a2 a3 a4 a5 a6 a7 a8 a9 a10 a11 : Option Value} {r : ev_L} {x : Int64} (hd : decode cc pc = .ok (.lstore 10, 2)) (hp : pc + 2 = pc') (hn : 10 + 1 < nL) (hq : ev_c1 a9 = true) (k : Ev l d own nm cc nL ret pc' (a0 :: a1 :: a2 :: a3 :: a4 :: a5 :: a6 :: a7 :: a8 :: a9 :: some (.long x) :: none :: r) st h v h') : Ev l d own nm cc nL ret pc (a0 :: a1 :: a2 :: a3 :: a4 :: a5 :: a6 :: a7 :: a8 :: a9 :: a10 :: a11 :: r) (.long x :: st) h v h' := by
  subst hp
  exact ev_loc (lc := a0 :: a1 :: a2 :: a3 :: a4 :: a5 :: a6 :: a7 :: a8 :: a9 :: a10 :: a11 :: r) (lc' := a0 :: a1 :: a2 :: a3 :: a4 :: a5 :: a6 :: a7 :: a8 :: a9 :: some (.long x) :: none :: r) (fun o => ((o.tl.sto (i := 10) (ok_long _ _) rfl).no 11)) (fun p e R s m args below meth c H locs cells Q ls ad C hl w => lv_lstore C.1 C.2.1 hd hl.has hn rfl (fun ls' hl' => w ls' (ev_st2 (lc := a0 :: a1 :: a2 :: a3 :: a4 :: a5 :: a6 :: a7 :: a8 :: a9 :: a10 :: a11 :: r) (i := 10) (w := .long x) (ev_pvs (i := 9) rfl hq) hl'))) k
theorem ev_astore_10 {a0 a1 a2 a3 a4 a5 a6 a7 a8 a9 a10 : Option Value} {r : ev_L} {x : Nat} (hd : decode cc pc = .ok (.astore 10, 2)) (hp : pc + 2 = pc') (hn : 10 < nL) (hq : ev_c1 a9 = true) (k : Ev l d own nm cc nL ret pc' (a0 :: a1 :: a2 :: a3 :: a4 :: a5 :: a6 :: a7 :: a8 :: a9 :: some (.ref x) :: r) st h v h') : Ev l d own nm cc nL ret pc (a0 :: a1 :: a2 :: a3 :: a4 :: a5 :: a6 :: a7 :: a8 :: a9 :: a10 :: r) (.ref x :: st) h v h' := by
  subst hp
  exact ev_loc (lc := a0 :: a1 :: a2 :: a3 :: a4 :: a5 :: a6 :: a7 :: a8 :: a9 :: a10 :: r) (lc' := a0 :: a1 :: a2 :: a3 :: a4 :: a5 :: a6 :: a7 :: a8 :: a9 :: some (.ref x) :: r) (fun o => (o.tl.sto (i := 10) (o.hd) rfl)) (fun p e R s m args below meth c H locs cells Q ls ad C hl w => lv_astore C.1 C.2.1 hd hl.has hn rfl (fun ls' hl' => w ls' (ev_st1 (lc := a0 :: a1 :: a2 :: a3 :: a4 :: a5 :: a6 :: a7 :: a8 :: a9 :: a10 :: r) (i := 10) (w := .ref x) (ev_pvs (i := 9) rfl hq) hl'))) k
theorem ev_astore_10N {a0 a1 a2 a3 a4 a5 a6 a7 a8 a9 a10 : Option Value} {r : ev_L} (hd : decode cc pc = .ok (.astore 10, 2)) (hp : pc + 2 = pc') (hn : 10 < nL) (hq : ev_c1 a9 = true) (k : Ev l d own nm cc nL ret pc' (a0 :: a1 :: a2 :: a3 :: a4 :: a5 :: a6 :: a7 :: a8 :: a9 :: some (.null) :: r) st h v h') : Ev l d own nm cc nL ret pc (a0 :: a1 :: a2 :: a3 :: a4 :: a5 :: a6 :: a7 :: a8 :: a9 :: a10 :: r) (.null :: st) h v h' := by
  subst hp
  exact ev_loc (lc := a0 :: a1 :: a2 :: a3 :: a4 :: a5 :: a6 :: a7 :: a8 :: a9 :: a10 :: r) (lc' := a0 :: a1 :: a2 :: a3 :: a4 :: a5 :: a6 :: a7 :: a8 :: a9 :: some (.null) :: r) (fun o => (o.tl.sto (i := 10) (ok_null _) rfl)) (fun p e R s m args below meth c H locs cells Q ls ad C hl w => lv_astoreN C.1 C.2.1 hd hl.has hn rfl (fun ls' hl' => w ls' (ev_st1 (lc := a0 :: a1 :: a2 :: a3 :: a4 :: a5 :: a6 :: a7 :: a8 :: a9 :: a10 :: r) (i := 10) (w := .null) (ev_pvs (i := 9) rfl hq) hl'))) k
theorem ev_iinc_10 {a0 a1 a2 a3 a4 a5 a6 a7 a8 a9 : Option Value} {r : ev_L} {x : Int32} {n : Int} (c : Int32) (hd : decode cc pc = .ok (.iinc 10 n, 3)) (hp : pc + 3 = pc') (hc : Int32.ofInt n = c) (hn : 10 < nL) (hq : ev_c1 a9 = true) (k : Ev l d own nm cc nL ret pc' (a0 :: a1 :: a2 :: a3 :: a4 :: a5 :: a6 :: a7 :: a8 :: a9 :: some (.int (x + c)) :: r) st h v h') : Ev l d own nm cc nL ret pc (a0 :: a1 :: a2 :: a3 :: a4 :: a5 :: a6 :: a7 :: a8 :: a9 :: some (.int x) :: r) st h v h' := by
  subst hp
  subst hc
  refine ev_loc (lc := a0 :: a1 :: a2 :: a3 :: a4 :: a5 :: a6 :: a7 :: a8 :: a9 :: some (.int x) :: r) (lc' := a0 :: a1 :: a2 :: a3 :: a4 :: a5 :: a6 :: a7 :: a8 :: a9 :: some (.int (x + Int32.ofInt n)) :: r) (fun o => o.sto (i := 10) (ok_int _ _) rfl) (fun p e R s m args below meth c H locs cells Q ls ad C hl w => ?_) k
  obtain ⟨kx, hk⟩ := List.getElem?_of_mem (ev_as_in (ad := ad) (a0 :: a1 :: a2 :: a3 :: a4 :: a5 :: a6 :: a7 :: a8 :: a9 :: some (.int x) :: r) 0 10 (.int x) rfl)
  rw [Nat.zero_add] at hk
  exact lv_iinc C.1 C.2.1 hd hl.has hk rfl hn rfl (fun ls' hl' => w ls' (ev_st1 (lc := a0 :: a1 :: a2 :: a3 :: a4 :: a5 :: a6 :: a7 :: a8 :: a9 :: some (.int x) :: r) (i := 10) (w := .int (x + Int32.ofInt n)) (ev_pvs (i := 9) rfl hq) hl'))
theorem ev_istore_11 {a0 a1 a2 a3 a4 a5 a6 a7 a8 a9 a10 a11 : Option Value} {r : ev_L} {x : Int32} (hd : decode cc pc = .ok (.istore 11, 2)) (hp : pc + 2 = pc') (hn : 11 < nL) (hq : ev_c1 a10 = true) (k : Ev l d own nm cc nL ret pc' (a0 :: a1 :: a2 :: a3 :: a4 :: a5 :: a6 :: a7 :: a8 :: a9 :: a10 :: some (.int x) :: r) st h v h') : Ev l d own nm cc nL ret pc (a0 :: a1 :: a2 :: a3 :: a4 :: a5 :: a6 :: a7 :: a8 :: a9 :: a10 :: a11 :: r) (.int x :: st) h v h' := by
  subst hp
  exact ev_loc (lc := a0 :: a1 :: a2 :: a3 :: a4 :: a5 :: a6 :: a7 :: a8 :: a9 :: a10 :: a11 :: r) (lc' := a0 :: a1 :: a2 :: a3 :: a4 :: a5 :: a6 :: a7 :: a8 :: a9 :: a10 :: some (.int x) :: r) (fun o => (o.tl.sto (i := 11) (ok_int _ _) rfl)) (fun p e R s m args below meth c H locs cells Q ls ad C hl w => lv_istore C.1 C.2.1 hd hl.has hn rfl (fun ls' hl' => w ls' (ev_st1 (lc := a0 :: a1 :: a2 :: a3 :: a4 :: a5 :: a6 :: a7 :: a8 :: a9 :: a10 :: a11 :: r) (i := 11) (w := .int x) (ev_pvs (i := 10) rfl hq) hl'))) k
theorem ev_lstore_11 {a0 a1 a2 a3 a4 a5 a6 a7 a8 a9 a10 a11 a12 : Option Value} {r : ev_L} {x : Int64} (hd : decode cc pc = .ok (.lstore 11, 2)) (hp : pc + 2 = pc') (hn : 11 + 1 < nL) (hq : ev_c1 a10 = true) (k : Ev l d own nm cc nL ret pc' (a0 :: a1 :: a2 :: a3 :: a4 :: a5 :: a6 :: a7 :: a8 :: a9 :: a10 :: some (.long x) :: none :: r) st h v h') : Ev l d own nm cc nL ret pc (a0 :: a1 :: a2 :: a3 :: a4 :: a5 :: a6 :: a7 :: a8 :: a9 :: a10 :: a11 :: a12 :: r) (.long x :: st) h v h' := by
  subst hp
  exact ev_loc (lc := a0 :: a1 :: a2 :: a3 :: a4 :: a5 :: a6 :: a7 :: a8 :: a9 :: a10 :: a11 :: a12 :: r) (lc' := a0 :: a1 :: a2 :: a3 :: a4 :: a5 :: a6 :: a7 :: a8 :: a9 :: a10 :: some (.long x) :: none :: r) (fun o => ((o.tl.sto (i := 11) (ok_long _ _) rfl).no 12)) (fun p e R s m args below meth c H locs cells Q ls ad C hl w => lv_lstore C.1 C.2.1 hd hl.has hn rfl (fun ls' hl' => w ls' (ev_st2 (lc := a0 :: a1 :: a2 :: a3 :: a4 :: a5 :: a6 :: a7 :: a8 :: a9 :: a10 :: a11 :: a12 :: r) (i := 11) (w := .long x) (ev_pvs (i := 10) rfl hq) hl'))) k
theorem ev_astore_11 {a0 a1 a2 a3 a4 a5 a6 a7 a8 a9 a10 a11 : Option Value} {r : ev_L} {x : Nat} (hd : decode cc pc = .ok (.astore 11, 2)) (hp : pc + 2 = pc') (hn : 11 < nL) (hq : ev_c1 a10 = true) (k : Ev l d own nm cc nL ret pc' (a0 :: a1 :: a2 :: a3 :: a4 :: a5 :: a6 :: a7 :: a8 :: a9 :: a10 :: some (.ref x) :: r) st h v h') : Ev l d own nm cc nL ret pc (a0 :: a1 :: a2 :: a3 :: a4 :: a5 :: a6 :: a7 :: a8 :: a9 :: a10 :: a11 :: r) (.ref x :: st) h v h' := by
  subst hp
  exact ev_loc (lc := a0 :: a1 :: a2 :: a3 :: a4 :: a5 :: a6 :: a7 :: a8 :: a9 :: a10 :: a11 :: r) (lc' := a0 :: a1 :: a2 :: a3 :: a4 :: a5 :: a6 :: a7 :: a8 :: a9 :: a10 :: some (.ref x) :: r) (fun o => (o.tl.sto (i := 11) (o.hd) rfl)) (fun p e R s m args below meth c H locs cells Q ls ad C hl w => lv_astore C.1 C.2.1 hd hl.has hn rfl (fun ls' hl' => w ls' (ev_st1 (lc := a0 :: a1 :: a2 :: a3 :: a4 :: a5 :: a6 :: a7 :: a8 :: a9 :: a10 :: a11 :: r) (i := 11) (w := .ref x) (ev_pvs (i := 10) rfl hq) hl'))) k
theorem ev_astore_11N {a0 a1 a2 a3 a4 a5 a6 a7 a8 a9 a10 a11 : Option Value} {r : ev_L} (hd : decode cc pc = .ok (.astore 11, 2)) (hp : pc + 2 = pc') (hn : 11 < nL) (hq : ev_c1 a10 = true) (k : Ev l d own nm cc nL ret pc' (a0 :: a1 :: a2 :: a3 :: a4 :: a5 :: a6 :: a7 :: a8 :: a9 :: a10 :: some (.null) :: r) st h v h') : Ev l d own nm cc nL ret pc (a0 :: a1 :: a2 :: a3 :: a4 :: a5 :: a6 :: a7 :: a8 :: a9 :: a10 :: a11 :: r) (.null :: st) h v h' := by
  subst hp
  exact ev_loc (lc := a0 :: a1 :: a2 :: a3 :: a4 :: a5 :: a6 :: a7 :: a8 :: a9 :: a10 :: a11 :: r) (lc' := a0 :: a1 :: a2 :: a3 :: a4 :: a5 :: a6 :: a7 :: a8 :: a9 :: a10 :: some (.null) :: r) (fun o => (o.tl.sto (i := 11) (ok_null _) rfl)) (fun p e R s m args below meth c H locs cells Q ls ad C hl w => lv_astoreN C.1 C.2.1 hd hl.has hn rfl (fun ls' hl' => w ls' (ev_st1 (lc := a0 :: a1 :: a2 :: a3 :: a4 :: a5 :: a6 :: a7 :: a8 :: a9 :: a10 :: a11 :: r) (i := 11) (w := .null) (ev_pvs (i := 10) rfl hq) hl'))) k
theorem ev_iinc_11 {a0 a1 a2 a3 a4 a5 a6 a7 a8 a9 a10 : Option Value} {r : ev_L} {x : Int32} {n : Int} (c : Int32) (hd : decode cc pc = .ok (.iinc 11 n, 3)) (hp : pc + 3 = pc') (hc : Int32.ofInt n = c) (hn : 11 < nL) (hq : ev_c1 a10 = true) (k : Ev l d own nm cc nL ret pc' (a0 :: a1 :: a2 :: a3 :: a4 :: a5 :: a6 :: a7 :: a8 :: a9 :: a10 :: some (.int (x + c)) :: r) st h v h') : Ev l d own nm cc nL ret pc (a0 :: a1 :: a2 :: a3 :: a4 :: a5 :: a6 :: a7 :: a8 :: a9 :: a10 :: some (.int x) :: r) st h v h' := by
  subst hp
  subst hc
  refine ev_loc (lc := a0 :: a1 :: a2 :: a3 :: a4 :: a5 :: a6 :: a7 :: a8 :: a9 :: a10 :: some (.int x) :: r) (lc' := a0 :: a1 :: a2 :: a3 :: a4 :: a5 :: a6 :: a7 :: a8 :: a9 :: a10 :: some (.int (x + Int32.ofInt n)) :: r) (fun o => o.sto (i := 11) (ok_int _ _) rfl) (fun p e R s m args below meth c H locs cells Q ls ad C hl w => ?_) k
  obtain ⟨kx, hk⟩ := List.getElem?_of_mem (ev_as_in (ad := ad) (a0 :: a1 :: a2 :: a3 :: a4 :: a5 :: a6 :: a7 :: a8 :: a9 :: a10 :: some (.int x) :: r) 0 11 (.int x) rfl)
  rw [Nat.zero_add] at hk
  exact lv_iinc C.1 C.2.1 hd hl.has hk rfl hn rfl (fun ls' hl' => w ls' (ev_st1 (lc := a0 :: a1 :: a2 :: a3 :: a4 :: a5 :: a6 :: a7 :: a8 :: a9 :: a10 :: some (.int x) :: r) (i := 11) (w := .int (x + Int32.ofInt n)) (ev_pvs (i := 10) rfl hq) hl'))
theorem ev_istore_12 {a0 a1 a2 a3 a4 a5 a6 a7 a8 a9 a10 a11 a12 : Option Value} {r : ev_L} {x : Int32} (hd : decode cc pc = .ok (.istore 12, 2)) (hp : pc + 2 = pc') (hn : 12 < nL) (hq : ev_c1 a11 = true) (k : Ev l d own nm cc nL ret pc' (a0 :: a1 :: a2 :: a3 :: a4 :: a5 :: a6 :: a7 :: a8 :: a9 :: a10 :: a11 :: some (.int x) :: r) st h v h') : Ev l d own nm cc nL ret pc (a0 :: a1 :: a2 :: a3 :: a4 :: a5 :: a6 :: a7 :: a8 :: a9 :: a10 :: a11 :: a12 :: r) (.int x :: st) h v h' := by
  subst hp
  exact ev_loc (lc := a0 :: a1 :: a2 :: a3 :: a4 :: a5 :: a6 :: a7 :: a8 :: a9 :: a10 :: a11 :: a12 :: r) (lc' := a0 :: a1 :: a2 :: a3 :: a4 :: a5 :: a6 :: a7 :: a8 :: a9 :: a10 :: a11 :: some (.int x) :: r) (fun o => (o.tl.sto (i := 12) (ok_int _ _) rfl)) (fun p e R s m args below meth c H locs cells Q ls ad C hl w => lv_istore C.1 C.2.1 hd hl.has hn rfl (fun ls' hl' => w ls' (ev_st1 (lc := a0 :: a1 :: a2 :: a3 :: a4 :: a5 :: a6 :: a7 :: a8 :: a9 :: a10 :: a11 :: a12 :: r) (i := 12) (w := .int x) (ev_pvs (i := 11) rfl hq) hl'))) k
theorem ev_lstore_12 {a0 a1 a2 a3 a4 a5 a6 a7 a8 a9 a10 a11 a12 a13 : Option Value} {r : ev_L} {x : Int64} (hd : decode cc pc = .ok (.lstore 12, 2)) (hp : pc + 2 = pc') (hn : 12 + 1 < nL) (hq : ev_c1 a11 = true) (k : Ev l d own nm cc nL ret pc' (a0 :: a1 :: a2 :: a3 :: a4 :: a5 :: a6 :: a7 :: a8 :: a9 :: a10 :: a11 :: some (.long x) :: none :: r) st h v h') : Ev l d own nm cc nL ret pc (a0 :: a1 :: a2 :: a3 :: a4 :: a5 :: a6 :: a7 :: a8 :: a9 :: a10 :: a11 :: a12 :: a13 :: r) (.long x :: st) h v h' := by
  subst hp
  exact ev_loc (lc := a0 :: a1 :: a2 :: a3 :: a4 :: a5 :: a6 :: a7 :: a8 :: a9 :: a10 :: a11 :: a12 :: a13 :: r) (lc' := a0 :: a1 :: a2 :: a3 :: a4 :: a5 :: a6 :: a7 :: a8 :: a9 :: a10 :: a11 :: some (.long x) :: none :: r) (fun o => ((o.tl.sto (i := 12) (ok_long _ _) rfl).no 13)) (fun p e R s m args below meth c H locs cells Q ls ad C hl w => lv_lstore C.1 C.2.1 hd hl.has hn rfl (fun ls' hl' => w ls' (ev_st2 (lc := a0 :: a1 :: a2 :: a3 :: a4 :: a5 :: a6 :: a7 :: a8 :: a9 :: a10 :: a11 :: a12 :: a13 :: r) (i := 12) (w := .long x) (ev_pvs (i := 11) rfl hq) hl'))) k
theorem ev_astore_12 {a0 a1 a2 a3 a4 a5 a6 a7 a8 a9 a10 a11 a12 : Option Value} {r : ev_L} {x : Nat} (hd : decode cc pc = .ok (.astore 12, 2)) (hp : pc + 2 = pc') (hn : 12 < nL) (hq : ev_c1 a11 = true) (k : Ev l d own nm cc nL ret pc' (a0 :: a1 :: a2 :: a3 :: a4 :: a5 :: a6 :: a7 :: a8 :: a9 :: a10 :: a11 :: some (.ref x) :: r) st h v h') : Ev l d own nm cc nL ret pc (a0 :: a1 :: a2 :: a3 :: a4 :: a5 :: a6 :: a7 :: a8 :: a9 :: a10 :: a11 :: a12 :: r) (.ref x :: st) h v h' := by
  subst hp
  exact ev_loc (lc := a0 :: a1 :: a2 :: a3 :: a4 :: a5 :: a6 :: a7 :: a8 :: a9 :: a10 :: a11 :: a12 :: r) (lc' := a0 :: a1 :: a2 :: a3 :: a4 :: a5 :: a6 :: a7 :: a8 :: a9 :: a10 :: a11 :: some (.ref x) :: r) (fun o => (o.tl.sto (i := 12) (o.hd) rfl)) (fun p e R s m args below meth c H locs cells Q ls ad C hl w => lv_astore C.1 C.2.1 hd hl.has hn rfl (fun ls' hl' => w ls' (ev_st1 (lc := a0 :: a1 :: a2 :: a3 :: a4 :: a5 :: a6 :: a7 :: a8 :: a9 :: a10 :: a11 :: a12 :: r) (i := 12) (w := .ref x) (ev_pvs (i := 11) rfl hq) hl'))) k
theorem ev_astore_12N {a0 a1 a2 a3 a4 a5 a6 a7 a8 a9 a10 a11 a12 : Option Value} {r : ev_L} (hd : decode cc pc = .ok (.astore 12, 2)) (hp : pc + 2 = pc') (hn : 12 < nL) (hq : ev_c1 a11 = true) (k : Ev l d own nm cc nL ret pc' (a0 :: a1 :: a2 :: a3 :: a4 :: a5 :: a6 :: a7 :: a8 :: a9 :: a10 :: a11 :: some (.null) :: r) st h v h') : Ev l d own nm cc nL ret pc (a0 :: a1 :: a2 :: a3 :: a4 :: a5 :: a6 :: a7 :: a8 :: a9 :: a10 :: a11 :: a12 :: r) (.null :: st) h v h' := by
  subst hp
  exact ev_loc (lc := a0 :: a1 :: a2 :: a3 :: a4 :: a5 :: a6 :: a7 :: a8 :: a9 :: a10 :: a11 :: a12 :: r) (lc' := a0 :: a1 :: a2 :: a3 :: a4 :: a5 :: a6 :: a7 :: a8 :: a9 :: a10 :: a11 :: some (.null) :: r) (fun o => (o.tl.sto (i := 12) (ok_null _) rfl)) (fun p e R s m args below meth c H locs cells Q ls ad C hl w => lv_astoreN C.1 C.2.1 hd hl.has hn rfl (fun ls' hl' => w ls' (ev_st1 (lc := a0 :: a1 :: a2 :: a3 :: a4 :: a5 :: a6 :: a7 :: a8 :: a9 :: a10 :: a11 :: a12 :: r) (i := 12) (w := .null) (ev_pvs (i := 11) rfl hq) hl'))) k
theorem ev_iinc_12 {a0 a1 a2 a3 a4 a5 a6 a7 a8 a9 a10 a11 : Option Value} {r : ev_L} {x : Int32} {n : Int} (c : Int32) (hd : decode cc pc = .ok (.iinc 12 n, 3)) (hp : pc + 3 = pc') (hc : Int32.ofInt n = c) (hn : 12 < nL) (hq : ev_c1 a11 = true) (k : Ev l d own nm cc nL ret pc' (a0 :: a1 :: a2 :: a3 :: a4 :: a5 :: a6 :: a7 :: a8 :: a9 :: a10 :: a11 :: some (.int (x + c)) :: r) st h v h') : Ev l d own nm cc nL ret pc (a0 :: a1 :: a2 :: a3 :: a4 :: a5 :: a6 :: a7 :: a8 :: a9 :: a10 :: a11 :: some (.int x) :: r) st h v h' := by
  subst hp
  subst hc
  refine ev_loc (lc := a0 :: a1 :: a2 :: a3 :: a4 :: a5 :: a6 :: a7 :: a8 :: a9 :: a10 :: a11 :: some (.int x) :: r) (lc' := a0 :: a1 :: a2 :: a3 :: a4 :: a5 :: a6 :: a7 :: a8 :: a9 :: a10 :: a11 :: some (.int (x + Int32.ofInt n)) :: r) (fun o => o.sto (i := 12) (ok_int _ _) rfl) (fun p e R s m args below meth c H locs cells Q ls ad C hl w => ?_) k
  obtain ⟨kx, hk⟩ := List.getElem?_of_mem (ev_as_in (ad := ad) (a0 :: a1 :: a2 :: a3 :: a4 :: a5 :: a6 :: a7 :: a8 :: a9 :: a10 :: a11 :: some (.int x) :: r) 0 12 (.int x) rfl)
  rw [Nat.zero_add] at hk
  exact lv_iinc C.1 C.2.1 hd hl.has hk rfl hn rfl (fun ls' hl' => w ls' (ev_st1 (lc := a0 :: a1 :: a2 :: a3 :: a4 :: a5 :: a6 :: a7 :: a8 :: a9 :: a10 :: a11 :: some (.int x) :: r) (i := 12) (w := .int (x + Int32.ofInt n)) (ev_pvs (i := 11) rfl hq) hl'))
theorem ev_istore_13 {a0 a1 a2 a3 a4 a5 a6 a7 a8 a9 a10 a11 a12 a13 : Option Value} {r : ev_L} {x : Int32} (hd : decode cc pc = .ok (.istore 13, 2)) (hp : pc + 2 = pc') (hn : 13 < nL) (hq : ev_c1 a12 = true) (k : Ev l d own nm cc nL ret pc' (a0 :: a1 :: a2 :: a3 :: a4 :: a5 :: a6 :: a7 :: a8 :: a9 :: a10 :: a11 :: a12 :: some (.int x) :: r) st h v h') : Ev l d own nm cc nL ret pc (a0 :: a1 :: a2 :: a3 :: a4 :: a5 :: a6 :: a7 :: a8 :: a9 :: a10 :: a11 :: a12 :: a13 :: r) (.int x :: st) h v h' := by
  subst hp
  exact ev_loc (lc := a0 :: a1 :: a2 :: a3 :: a4 :: a5 :: a6 :: a7 :: a8 :: a9 :: a10 :: a11 :: a12 :: a13 :: r) (lc' := a0 :: a1 :: a2 :: a3 :: a4 :: a5 :: a6 :: a7 :: a8 :: a9 :: a10 :: a11 :: a12 :: some (.int x) :: r) (fun o => (o.tl.sto (i := 13) (ok_int _ _) rfl)) (fun p e R s m args below meth c H locs cells Q ls ad C hl w => lv_istore C.1 C.2.1 hd hl.has hn rfl (fun ls' hl' => w ls' (ev_st1 (lc := a0 :: a1 :: a2 :: a3 :: a4 :: a5 :: a6 :: a7 :: a8 :: a9 :: a10 :: a11 :: a12 :: a13 :: r) (i := 13) (w := .int x) (ev_pvs (i := 12) rfl hq) hl'))) k
theorem ev_lstore_13 {a0 a1 a2 a3 a4 a5 a6 a7 a8 a9 a10 a11 a12 a13 a14 : Option Value} {r : ev_L} {x : Int64} (hd : decode cc pc = .ok (.lstore 13, 2)) (hp : pc + 2 = pc') (hn : 13 + 1 < nL) (hq : ev_c1 a12 = true) (k : Ev l d own nm cc nL ret pc' (a0 :: a1 :: a2 :: a3 :: a4 :: a5 :: a6 :: a7 :: a8 :: a9 :: a10 :: a11 :: a12 :: some (.long x) :: none :: r) st h v h') : Ev l d own nm cc nL ret pc (a0 :: a1 :: a2 :: a3 :: a4 :: a5 :: a6 :: a7 :: a8 :: a9 :: a10 :: a11 :: a12 :: a13 :: a14 :: r) (.long x :: st) h v h' := by
  subst hp
  exact ev_loc (lc := a0 :: a1 :: a2 :: a3 :: a4 :: a5 :: a6 :: a7 :: a8 :: a9 :: a10 :: a11 :: a12 :: a13 :: a14 :: r) (lc' := a0 :: a1 :: a2 :: a3 :: a4 :: a5 :: a6 :: a7 :: a8 :: a9 :: a10 :: a11 :: a12 :: some (.long x) :: none :: r) (fun o => ((o.tl.sto (i := 13) (ok_long _ _) rfl).no 14)) (fun p e R s m args below meth c H locs cells Q ls ad C hl w => lv_lstore C.1 C.2.1 hd hl.has hn rfl (fun ls' hl' => w ls' (ev_st2 (lc := a0 :: a1 :: a2 :: a3 :: a4 :: a5 :: a6 :: a7 :: a8 :: a9 :: a10 :: a11 :: a12 :: a13 :: a14 :: r) (i := 13) (w := .long x) (ev_pvs (i := 12) rfl hq) hl'))) k
theorem ev_astore_13 {a0 a1 a2 a3 a4 a5 a6 a7 a8 a9 a10 a11 a12 a13 : Option Value} {r : ev_L} {x : Nat} (hd : decode cc pc = .ok (.astore 13, 2)) (hp : pc + 2 = pc') (hn : 13 < nL) (hq : ev_c1 a12 = true) (k : Ev l d own nm cc nL ret pc' (a0 :: a1 :: a2 :: a3 :: a4 :: a5 :: a6 :: a7 :: a8 :: a9 :: a10 :: a11 :: a12 :: some (.ref x) :: r) st h v h') : Ev l d own nm cc nL ret pc (a0 :: a1 :: a2 :: a3 :: a4 :: a5 :: a6 :: a7 :: a8 :: a9 :: a10 :: a11 :: a12 :: a13 :: r) (.ref x :: st) h v h' := by
  subst hp
  exact ev_loc (lc := a0 :: a1 :: a2 :: a3 :: a4 :: a5 :: a6 :: a7 :: a8 :: a9 :: a10 :: a11 :: a12 :: a13 :: r) (lc' := a0 :: a1 :: a2 :: a3 :: a4 :: a5 :: a6 :: a7 :: a8 :: a9 :: a10 :: a11 :: a12 :: some (.ref x) :: r) (fun o => (o.tl.sto (i := 13) (o.hd) rfl)) (fun p e R s m args below meth c H locs cells Q ls ad C hl w => lv_astore C.1 C.2.1 hd hl.has hn rfl (fun ls' hl' => w ls' (ev_st1 (lc := a0 :: a1 :: a2 :: a3 :: a4 :: a5 :: a6 :: a7 :: a8 :: a9 :: a10 :: a11 :: a12 :: a13 :: r) (i := 13) (w := .ref x) (ev_pvs (i := 12) rfl hq) hl'))) k
theorem ev_astore_13N {a0 a1 a2 a3 a4 a5 a6 a7 a8 a9 a10 a11 a12 a13 : Option Value} {r : ev_L} (hd : decode cc pc = .ok (.astore 13, 2)) (hp : pc + 2 = pc') (hn : 13 < nL) (hq : ev_c1 a12 = true) (k : Ev l d own nm cc nL ret pc' (a0 :: a1 :: a2 :: a3 :: a4 :: a5 :: a6 :: a7 :: a8 :: a9 :: a10 :: a11 :: a12 :: some (.null) :: r) st h v h') : Ev l d own nm cc nL ret pc (a0 :: a1 :: a2 :: a3 :: a4 :: a5 :: a6 :: a7 :: a8 :: a9 :: a10 :: a11 :: a12 :: a13 :: r) (.null :: st) h v h' := by
  subst hp
  exact ev_loc (lc := a0 :: a1 :: a2 :: a3 :: a4 :: a5 :: a6 :: a7 :: a8 :: a9 :: a10 :: a11 :: a12 :: a13 :: r) (lc' := a0 :: a1 :: a2 :: a3 :: a4 :: a5 :: a6 :: a7 :: a8 :: a9 :: a10 :: a11 :: a12 :: some (.null) :: r) (fun o => (o.tl.sto (i := 13) (ok_null _) rfl)) (fun p e R s m args below meth c H locs cells Q ls ad C hl w => lv_astoreN C.1 C.2.1 hd hl.has hn rfl (fun ls' hl' => w ls' (ev_st1 (lc := a0 :: a1 :: a2 :: a3 :: a4 :: a5 :: a6 :: a7 :: a8 :: a9 :: a10 :: a11 :: a12 :: a13 :: r) (i := 13) (w := .null) (ev_pvs (i := 12) rfl hq) hl'))) k
theorem ev_iinc_13 {a0 a1 a2 a3 a4 a5 a6 a7 a8 a9 a10 a11 a12 : Option Value} {r : ev_L} {x : Int32} {n : Int} (c : Int32) (hd : decode cc pc = .ok (.iinc 13 n, 3)) (hp : pc + 3 = pc') (hc : Int32.ofInt n = c) (hn : 13 < nL) (hq : ev_c1 a12 = true) (k : Ev l d own nm cc nL ret pc' (a0 :: a1 :: a2 :: a3 :: a4 :: a5 :: a6 :: a7 :: a8 :: a9 :: a10 :: a11 :: a12 :: some (.int (x + c)) :: r) st h v h') : Ev l d own nm cc nL ret pc (a0 :: a1 :: a2 :: a3 :: a4 :: a5 :: a6 :: a7 :: a8 :: a9 :: a10 :: a11 :: a12 :: some (.int x) :: r) st h v h' := by
  subst hp
  subst hc
  refine ev_loc (lc := a0 :: a1 :: a2 :: a3 :: a4 :: a5 :: a6 :: a7 :: a8 :: a9 :: a10 :: a11 :: a12 :: some (.int x) :: r) (lc' := a0 :: a1 :: a2 :: a3 :: a4 :: a5 :: a6 :: a7 :: a8 :: a9 :: a10 :: a11 :: a12 :: some (.int (x + Int32.ofInt n)) :: r) (fun o => o.sto (i := 13) (ok_int _ _) rfl) (fun p e R s m args below meth c H locs cells Q ls ad C hl w => ?_) k
  obtain ⟨kx, hk⟩ := List.getElem?_of_mem (ev_as_in (ad := ad) (a0 :: a1 :: a2 :: a3 :: a4 :: a5 :: a6 :: a7 :: a8 :: a9 :: a10 :: a11 :: a12 :: some (.int x) :: r) 0 13 (.int x) rfl)
  rw [Nat.zero_add] at hk
  exact lv_iinc C.1 C.2.1 hd hl.has hk rfl hn rfl (fun ls' hl' => w ls' (ev_st1 (lc := a0 :: a1 :: a2 :: a3 :: a4 :: a5 :: a6 :: a7 :: a8 :: a9 :: a10 :: a11 :: a12 :: some (.int x) :: r) (i := 13) (w := .int (x + Int32.ofInt n)) (ev_pvs (i := 12) rfl hq) hl'))
end ER
