section DO
variable {s : State} {args : Array Value}
theorem ka_prim {ty : FieldType} (h : (Cond.arrayClass ty).before args s = true) : ∃ c : ClassId, ArrOfT s c ty ∧ s.vm.findClass ("[" ++ ty.toString) = some c := by
  obtain ⟨c, k, comp, f1, f2, f3⟩ := Cond.arrayClass_spec h
  exact ⟨c, fun n z => ⟨fun k h => (by cases h), k, f2, comp, f3⟩, f1⟩
theorem ka_obj {C : String} (h : va_AO C s) : ∃ c : ClassId, ArrOfT s c (.object C) ∧ va_RA s c (.object C) := by
  obtain ⟨comp, c, k, f1, -, f3, f4, f5⟩ := Cond.arrayOver_spec h
  exact ⟨c, fun n z => ⟨fun k h => (by cases h), k, f3, comp, f4⟩, k, comp, f3, f4, f1, f5⟩
theorem st_N (hts : ∀ w ∈ lw_tbl, w.before args s = true) : ev_N s := by
  have h1 : ∀ q ∈ ev_nst, Cond.methodLinkNest q.1 q.2.1 q.2.2.1 q.2.2.2 ∈ lw_tbl := by decide +kernel
  exact ⟨fun q hq => va_Nw.of rfl (hts _ (h1 q hq)), va_AO.of (A := args) (hts _ (by decide +kernel)), va_AO.of (A := args) (hts _ (by decide +kernel))⟩
theorem st_str {k : Nat} {tx : String} {cur : ClassId} (hts : ∀ w ∈ lw_tbl, w.before args s = true) (hc : s.vm.findClass RX5 = some cur) (hw : Cond.stringRef RX5 k tx ∈ lw_tbl) : ∃ a, vk_R RX5 k tx a s := by
  obtain ⟨kk, cf, i, a, -, -, -, -, -, h6⟩ := Cond.stringRef_spec (args := args) (first := s) (o := none) (idx := []) hc (hts _ hw)
  exact ⟨a, vk_R.of (A := args) (hts _ hw) h6⟩
theorem st_X {cur : ClassId} (hts : ∀ w ∈ lw_tbl, w.before args s = true) (hc : s.vm.findClass RX5 = some cur) (hgv : (Jvm.Cond.and given_1 narrow_1).before args s = true) : XS s := by
  have hs := flat_of_before _ hgv
  exact ⟨fun w hw => va_Nw.of (xc_ot (xc_bad_cd w hw)) (hts _ (xc_in w (List.mem_filter.mp hw).1)), st_str hts hc (by decide +kernel), st_str hts hc (by decide +kernel), st_str hts hc (by decide +kernel), st_str hts hc (by decide +kernel), st_str hts hc (by decide +kernel), va_Nc.of (hs (.not (.castable eIS eUO)) (by decide +kernel)), va_Nc.of (hs (.not (.castable eIA eUO)) (by decide +kernel)), va_Nc.of (hs (.not (.castable eIA eIS)) (by decide +kernel)), va_Nc.of (hs (.not (.castable eIS eIA)) (by decide +kernel))⟩
theorem st_Z (hts : ∀ w ∈ lw_tbl, w.before args s = true) (hgv : (Jvm.Cond.and given_1 narrow_1).before args s = true) : XZ (fun q => s.heap.size ≤ q) s s.heap := by
  have hs := flat_of_before _ hgv
  exact ⟨vx_Zqof (hts (.laysStatic Bundle.tN "UNASSIGNED_STACK" Bundle.steD) (by decide +kernel)) (hts (.initialized Bundle.tN) (by decide +kernel)) (hs (.isRef (.static Bundle.tN "UNASSIGNED_STACK" Bundle.steD)) (by decide +kernel)) (fun a h => Nat.not_le.mpr h), vx_Zqof (hts (.laysStatic Bundle.tN "SUPPRESSED_SENTINEL" Bundle.listD) (by decide +kernel)) (hts (.initialized Bundle.tN) (by decide +kernel)) (hs (.isRef (.static Bundle.tN "SUPPRESSED_SENTINEL" Bundle.listD)) (by decide +kernel)) (fun a h => Nat.not_le.mpr h)⟩
theorem st_fl {l : Launch} (h : l.flags = flags0) : l.stackTraces = false := by
  unfold Launch.stackTraces
  rw [h]
  decide +kernel
theorem st_K (hts : ∀ w ∈ lw_tbl, w.before args s = true) (hN : ev_N s) : ∃ (D : va_G) (aC : Nat → Nat), va_K D bg_cl (ev_ty aC) s := by
  obtain ⟨c0, i0, k0⟩ := u_known (C := RX0) (T := TX0) (N := 9) (n := 9) hts (fun w h => bg_in (bg_w0 w h)) (hts (.instantiable RX0 9) (by decide +kernel))
  obtain ⟨c1, i1, k1⟩ := u_known (C := RX1) (T := TX1) (N := 5) (n := 5) hts (fun w h => bg_in (bg_w1 w h)) (hts (.instantiable RX1 5) (by decide +kernel))
  obtain ⟨c2, i2, k2⟩ := u_known (C := RX2) (T := TX2) (N := 6) (n := 6) hts (fun w h => bg_in (bg_w2 w h)) (hts (.instantiable RX2 6) (by decide +kernel))
  obtain ⟨c3, i3, k3⟩ := u_known (C := RX3) (T := TX3) (N := 12) (n := 12) hts (fun w h => bg_in (bg_w3 w h)) (hts (.instantiable RX3 12) (by decide +kernel))
  obtain ⟨c4, i4, k4⟩ := u_known (C := RX4) (T := TX4) (N := 9) (n := 9) hts (fun w h => bg_in (bg_w4 w h)) (hts (.instantiable RX4 9) (by decide +kernel))
  obtain ⟨c5, i5, k5⟩ := u_known (C := RX5) (T := TX5) (N := 6) (n := 6) hts (fun w h => bg_in (bg_w5 w h)) (hts (.instantiable RX5 6) (by decide +kernel))
  obtain ⟨c6, i6, k6⟩ := u_known (C := RX6) (T := TX6) (N := 23) (n := 23) hts (fun w h => bg_in (bg_w6 w h)) (hts (.instantiable RX6 23) (by decide +kernel))
  obtain ⟨a0, r0, n0⟩ := ka_prim (ty := .int) (hts (.arrayClass .int) (by decide +kernel))
  obtain ⟨a1, r1, n1⟩ := ka_prim (ty := .long) (hts (.arrayClass .long) (by decide +kernel))
  obtain ⟨a2, r2, n2⟩ := ka_prim (ty := .boolean) (hts (.arrayClass .boolean) (by decide +kernel))
  obtain ⟨a3, r3, n3⟩ := ka_obj hN.2.1
  obtain ⟨a4, r4, n4⟩ := ka_obj hN.2.2
  refine ⟨(fun k => if k = 0 then c0 else if k = 1 then c1 else if k = 2 then c2 else if k = 3 then c3 else if k = 4 then c4 else if k = 5 then c5 else c6, fun k => if k = 0 then i0 else if k = 1 then i1 else if k = 2 then i2 else if k = 3 then i3 else if k = 4 then i4 else if k = 5 then i5 else i6), fun k => if k = 0 then a0 else if k = 1 then a1 else if k = 2 then a2 else if k = 3 then a3 else a4, fun k q hq => ?_, fun k q hq => ?_⟩
  · match k, hq with
    | 0, hq => cases hq; exact k0
    | 1, hq => cases hq; exact k1
    | 2, hq => cases hq; exact k2
    | 3, hq => cases hq; exact k3
    | 4, hq => cases hq; exact k4
    | 5, hq => cases hq; exact k5
    | 6, hq => cases hq; exact k6
    | k + 7, hq => simp [bg_cl] at hq
  · match k, hq with
    | 0, hq => cases hq; exact ⟨r0, n0⟩
    | 1, hq => cases hq; exact ⟨r1, n1⟩
    | 2, hq => cases hq; exact ⟨r2, n2⟩
    | 3, hq => cases hq; exact ⟨r3, n3⟩
    | 4, hq => cases hq; exact ⟨r4, n4⟩
    | k + 5, hq => simp [ev_ty] at hq
end DO
set_option maxHeartbeats 4000000 in
/-- YOUR PART: from the entry, for every script of at most 384 ints, the law comes to its end with true ('hflags': the launch's flags, for a law that throws: no stack traces) -/
theorem whole_start {p : Program} {e : Env} {s : State} {m : MethodId} {below : List Frame} {meth : Method} {c : Code} (l : Launch) (hflags : l.flags = flags0) {b L : Nat} {xs : Nat → Int32} (hL : L ≤ 384) (C0 : lw_At p s m meth c b L xs) : W p l e room_1 s m #[Value.ref b] below meth c s.heap [] 0 0 (lw_Z below #[Value.ref b] s) (entryFrame m ([Value.ref b] : List Value).toArray 8) := by
  obtain ⟨hx, hb, hr, hml, hown, hts, hX, hbl, hlocks, hgv⟩ := id C0
  have hN := st_N hts
  obtain ⟨D, aC, hK⟩ := st_K hts hN
  have hst := st_fl hflags
  have hXS := st_X hts (hK.1 5 _ rfl).2.1 hgv
  have hZ := st_Z hts hgv
  have C : ev_C p s m #[Value.ref b] meth c RL meth.name code 8 ret := ⟨hx, hb, hr, hml, hown, fun w hw => hts w (bg_in hw), hlocks, rfl, hN⟩
  have X : LX p s m meth c b L xs := ⟨C, hX, hbl, hL⟩
  have D0 : ev_D D aC (fun _ => 0) (fun q => s.heap.size ≤ q) s s.heap [] [] := ⟨hK, fun k q h => by simp [ev_w] at h, ⟨fun i j p q h => by simp [ev_w] at h, fun k q h => by simp [ev_w] at h⟩, va_S.rf, fun _ h => h⟩
  have o0 : ok_h [] := fun e he => nomatch he
  have hl := lv_entry ([.ref b]) (n := 8) (Nat.le_of_ble_eq_true rfl)
  rw [lg_entry_eq]
  generalize (lg_sl ([.ref b]) ++ List.replicate (8 - (lg_sl ([.ref b])).length) Slot.unset).toArray = ls at hl ⊢
  have hl : lv_has ls 8 [(0, .ref b)] := hl
  refine wn (cells := 0) (pc' := 3) C D0 o0 nwL_8 dL_law_0 rfl ⟨(Nat.le_of_ble_eq_true rfl), (Nat.le_of_ble_eq_true rfl)⟩ (fun q1 H1 locs1 o1 D1 => ?_)
  refine lv_dup C.1 C.2.1 dL_law_3 rfl ?_
  refine wc_I (a := 0) (pc' := 7) (rest := [.ref q1]) [] C D1 hl.1 o1 (ok2 (by decide) _ (fun u hu => nomatch hu)) kL_17 mX5_init dL_law_4 rfl rfl rfl rfl (Nat.le_of_ble_eq_true rfl) (Nat.le_of_ble_eq_true rfl) (by decide) ⟨(Nat.le_of_ble_eq_true rfl), (Nat.le_of_ble_eq_true rfl)⟩ e5_init (fun ad2 H2 locs2 ha2 o2 g2 D2 => ?_)
  have e20 : ad2 0 = q1 := ha2 0 (by decide)
  refine lv_astore_n (lv' := [(1, .ref q1), (0, .ref b)]) C.1 C.2.1 dL_law_7 rfl hl (by decide) rfl (fun ls hl => ?_)
  refine W.widen (k := 34) (n := 1000 * 34) (Nat.le_of_ble_eq_true rfl) (Nat.le_of_ble_eq_true rfl) ?_
  refine wn (cells := 34) (pc' := 11) C D2 o2 nwL_18 dL_law_8 rfl ⟨(Nat.le_of_ble_eq_true rfl), (Nat.le_of_ble_eq_true rfl)⟩ (fun q2 H3 locs3 o3 D3 => ?_)
  refine lv_dup C.1 C.2.1 dL_law_11 rfl ?_
  obtain ⟨v4, h4, E4, rfl, m4, L4, f4⟩ := e6_init (l := l) (g := cH0) rfl
  refine wc_I (a := 34) (pc' := 15) (rest := [.ref q2]) [] C D3 hl.1 o3 (ok2 (by decide) _ (fun u hu => nomatch hu)) kL_20 mX6_init dL_law_12 rfl rfl rfl rfl (Nat.le_of_ble_eq_true rfl) (Nat.le_of_ble_eq_true rfl) (by decide) (by rw [L4]; exact ⟨(Nat.le_of_ble_eq_true rfl), (Nat.le_of_ble_eq_true rfl)⟩) E4 (fun ad4 H4 locs4 ha4 o4 g4 D4 => ?_)
  have e40 : ad4 0 = q1 := (ha4 0 (by decide)).trans e20
  have e434 : ad4 34 = q2 := ha4 34 (by decide)
  refine lv_astore_n (lv' := [(2, .ref q2), (1, .ref q1), (0, .ref b)]) C.1 C.2.1 dL_law_15 rfl hl (by decide) rfl (fun ls hl => ?_)
  refine W.widen (k := 46) (n := 1000 * 46) (by rw [L4]; exact (Nat.le_of_ble_eq_true rfl)) (by rw [L4]; exact (Nat.le_of_ble_eq_true rfl)) ?_
  refine lv_iconst (v := iI 1) C.1 C.2.1 dL_law_16 rfl ?_
  refine wnl (N := 1) (cells := 46) (pc' := 19) C D4 o4 (bg_of (by decide +kernel) rfl) dL_law_17 rfl (by decide) rfl (by decide) ⟨(Nat.le_of_ble_eq_true rfl), (Nat.le_of_ble_eq_true rfl)⟩ (fun q3 H5 locs5 o5 D5 => ?_)
  rw [L4] at D5
  refine lv_astore_n (lv' := [(3, .ref q3), (2, .ref q2), (1, .ref q1), (0, .ref b)]) C.1 C.2.1 dL_law_19 rfl hl (by decide) rfl (fun ls hl => ?_)
  refine lv_iconst (v := iI 0) C.1 C.2.1 dL_law_20 rfl ?_
  refine lv_istore (lv' := [(4, .int (iI 0)), (3, .ref q3), (2, .ref q2), (1, .ref q1), (0, .ref b)]) C.1 C.2.1 dL_law_21 hl (by decide) rfl (fun ls hl => ?_)
  have x5 : LI (h4 ++ [.inl (1, 1, .inr (.inl (fun _ => 0)))]) := by
    have g : ∀ j, j < 46 → (h4 ++ [.inl (1, 1, .inr (.inl (fun _ => 0)))])[j]? = h4[j]? := fun j hj => gp_j (by omega)
    refine LI_init (fun j hj => (g j (by omega)).trans (f4 j hj)) (m4.eq45 (fun j _ hj => g j hj)) ⟨fun _ => 0, ?_⟩ (by rw [List.length_append, L4]; rfl)
    rw [← L4]
    exact gp_get
  refine law_loop X hXS hZ hst 64 0 47 _ _ _ _ (by omega) (by omega) (by decide) ⟨va_up ad4 46 q3, D5, ?_, o5, x5⟩
  have u0 : va_up ad4 46 q3 0 = q1 := (vu_n (by decide)).trans e40
  have u34 : va_up ad4 46 q3 34 = q2 := (vu_n (by decide)).trans e434
  have u46 : va_up ad4 46 q3 46 = q3 := vu_s _ _ _
  have hl := lv_sub hl [4, 3, 2, 1, 0] rfl
  unfold lvL
  rw [u0, u34, u46]
  exact hl
set_option maxHeartbeats 4000000 in
theorem lw_walk (l : Launch) (hflags : l.flags = flags0) (b : Addr) (xs : List Int32) : MetFree l x (headSpec (Jvm.Cond.code x code maxLocals ret :: tables_1) room_1) (lw_P b xs) (fun _ _ _ _ _ => True) lw_Q := by
  refine MetFree.of_bodyS (code := code) (maxLocals := maxLocals) (ret := ret) (by decide) ?_ ?_
  · intro args s m h hn
    obtain ⟨meth, c, h1, h2, h3, h4, h5, h6, -, -⟩ := Cond.code_spec hn (atoms_spec (ws := Jvm.Cond.code x code maxLocals ret :: tables_1) h _ List.mem_cons_self)
    exact ⟨meth, c, h1, h2, h3, h4, h5, h6⟩
  · intro p e s m args below meth c s₁ B hml0 hP _
    obtain ⟨rfl, hx, hbd, hgv⟩ := hP
    obtain ⟨scr, harrAt, hlist, hof, hsmall⟩ := hx
    obtain ⟨hcb, hkn, -, -⟩ := State.arrayAt?_spec harrAt
    have hown : s.vm.findClass R_law = some m.cls := findClass_of_methodNamed B.named
    have hts0 : ∀ c ∈ (Jvm.Cond.code x code maxLocals ret :: tables_1), c.before #[Value.ref b] s = true := atoms_spec (ws := Jvm.Cond.code x code maxLocals ret :: tables_1) B.pre
    have hts : ∀ w ∈ lw_tbl, w.before #[Value.ref b] s = true := k2_hts_sels lw_privs (fun w hw => hts0 w (List.mem_cons_of_mem _ hw)) lw_privs_ok
    have hml : c.maxLocals = 8 := B.maxLocals_eq (hts0 _ List.mem_cons_self)
    have X₀ : Stand p l e room_1 s m #[Value.ref b] below meth c s₁ [] 0 0 := Stand.of_body B
    have hh0 : s₁.heap = s.heap := by rw [B.state]; rfl
    have hsz : scr.slots.size = xs.length := by rw [← Array.length_toList, hlist, List.length_map]
    have hval : ∀ j : Nat, j < xs.length → scr.slots[j]? = some (.int (xs.getD j 0)) := fun j hj => by
      rw [← Array.getElem?_toList, hlist]
      simp [hj]
    have hbl : b < s.heap.size := (Array.getElem?_eq_some_iff.mp hcb).1
    have hX : va_X b xs.length (fun j => xs.getD j 0) s s.heap := ⟨scr, hcb, hof, hkn, hsz, hval⟩
    have K : W p l e room_1 s m #[Value.ref b] below meth c s₁.heap [] 0 0 (lw_Z below #[Value.ref b] s) (entryFrame m ([Value.ref b] : List Value).toArray 8) := by
      rw [hh0]
      exact whole_start l hflags hbd ⟨B.exec, B.bytes, B.returns, hml, hown, hts, hX, hbl, B.notSynchronized, hgv⟩
    obtain ⟨t, a1, o, b1, b2, b3⟩ := K s₁ rfl X₀
    exact ⟨t, o, a1, b1, b2, b3⟩
theorem lw_pre_spec {args : Array Value} {s : State} (h : (Jvm.Cond.and given_1 narrow_1).before args s = true) (hr : rest_1_c.before args s = true) : ∃ (b : Addr) (xs : List Int32), lw_P b xs args s := by
  have hs := flat_of_before _ h
  have hq := flat_of_before _ hr
  have hc : (Cond.count 1).before args s = true := hs _ (by decide +kernel)
  have harr : (Cond.arrayOf (.arg 0) .int).before args s = true := hs _ (by decide +kernel)
  have hle : (Cond.le (.length (.arg 0)) (.int 384)).before args s = true := hs _ (by decide +kernel)
  have hlen : (Cond.isInt (.length (.arg 0))).before args s = true := hq _ (by decide +kernel)
  have hall : (Cond.all (.arg 0) (.isInt (.elem (.arg 0) (.index 0)))).before args s = true := hq _ (by decide +kernel)
  obtain ⟨b, xs, hb, hx⟩ := State.ints_of_pre rfl harr hlen hall
  have hsm : xs.length < 2 ^ 31 := hx.choose_spec.2.2.2
  have hev : (Term.length (.arg 0)).eval args s none [] s = some (.int xs.length.toInt32) := hx.length_eval hb
  have hv := Cond.le_ints hev (show (Term.int 384).eval args s none [] s = some (.int 384) from rfl)
  have hd : xs.length.toInt32 ≤ 384 := by
    simpa [Cond.before, Cond.holds, hv] using hle
  have hN : xs.length ≤ 384 := (Int32.ofNat_le_ofNat hsm (by decide)).mp (show Int32.ofNat xs.length ≤ Int32.ofNat 384 from hd)
  exact ⟨b, xs, Cond.one_arg hc (show args[0]? = some (.ref b) from hb), hx, hN, h⟩
theorem lw_comes (l : Launch) (hflags : l.flags = flags0) : Comes l x (Jvm.Cond.code x code maxLocals ret :: tables_1) room_1 (fun tb e args s => Calls_1 tb e args s ∧ rest_1 tb e args s ∧ Pre_1 tb e args s)
    (fun _ _ args s o t => lw_Q args s o t) := by
  intro p e ha hc hk s m args below hf hfit hheap happ hpre
  obtain ⟨b, xs, hP⟩ := lw_pre_spec hpre.2.2 hpre.2.1
  obtain ⟨k, o, h1, h2, h3, hQ⟩ := lw_walk l hflags b xs p e ha hc hk s m args below hf ((Spec.applies_iff_loose hf).mp happ).1 hP trivial
  exact ⟨k, o, h1, h2, h3, hQ⟩
theorem lw_frame {s t : State} {o : Outcome} {args : Array Value} (h : Framed s o t [] 600128 7301098) :
    Framed s o t (fieldLocs frame_1_writes args s ++ arrayLocs frame_1_arrays args s ++ staticLocs frame_1_statics s) 600128 7301098 := h
theorem lw_limb (L : Cond) (hL : ∀ (args : Array Value) (s t : State), L.after args s (.returned (some (.int 1))) t = true) :
    ArmFor flags0 classFile x code maxLocals ret World_1 tables_1 room_1 Calls_1 rest_1 Pre_1
      (fun tb e a s o t => postC L tb e a s o t ∧ Framed s o t (fieldLocs frame_1_writes a s ++ arrayLocs frame_1_arrays a s ++ staticLocs frame_1_statics s) 600128 7301098) := by
  intro l hflags _ _ p e ha hc hk s m args below hf hfit hheap happ hpre
  obtain ⟨k, o, h1, h2, h3, rfl, hF⟩ := lw_comes l hflags p e ha hc hk s m args below hf hfit hheap happ hpre
  exact ⟨k, _, h1, h2, h3, hL args s _, lw_frame hF⟩
theorem i_vc : Claimed_1_1 ∧ Claimed_1_2 := ⟨lw_limb limb_1_1 (fun args s t => by simp [limb_1_1, Cond.after, Cond.holds, Cond.value]), lw_limb limb_1_2 (fun args s t => Cond.after_iff.mpr (by
  first | (rw [show limb_1_2 = Cond.eq .result (.int 1) from rfl, Cond.eq_ints (x := 1) (y := 1) rfl rfl]; simp; done) | (simp [limb_1_2, Cond.value, Term.eval]; done)))⟩
