section IN
/-! the cells of the class -/
abbrev cRf (kd n : Nat) (f : Nat → Option Nat) : va_E := .inl (kd, n, .inr (.inr (.inr (.inr f))))
abbrev cWo (P N L : Int) (r1 r2 r3 r4 r5 r6 : Nat) : va_E := .inr (4, [.int (iI P), .int (iI N), .int (iI L), .ref r1, .ref r2, .ref r3, .ref r4, .ref r5, .ref r6])
abbrev cTr (nu ki ho sy le ea ch : Int) (r1 r2 r3 r4 r5 : Nat) : va_E := .inr (3, [.int (iI nu), .int (iI ki), .int (iI ho), .int (iI sy), .int (iI le), .int (iI ea), .ref r1, .ref r2, .ref r3, .int (iI ch), .ref r4, .ref r5])
abbrev cSh (w : Value) (r s z : Int) (e : Nat) : va_E := .inr (1, [w, .int (iI r), .int (iI s), .int (iI z), .ref e])
abbrev cSp (pl le ca go ea be : Int) : va_E := .inr (2, [.int (iI pl), .int (iI le), .int (iI ca), .long (jJ go), .long (jJ ea), .long (jJ be)])
abbrev cRd (t : Value) (a b c d e f g k : Int) : va_E := .inr (0, [t, .int (iI a), .int (iI b), .int (iI c), .int (iI d), .int (iI e), .int (iI f), .int (iI g), .int (iI k)])
abbrev cWd (a b : Value) (i : Int) (s p r : Value) : va_E := .inr (5, [a, b, .int (iI i), s, p, r])
theorem gp_get {g : ev_H} {x : va_E} {xs : ev_H} : (g ++ x :: xs)[g.length]? = some x := by simp
theorem gp_set {g : ev_H} {x y : va_E} {xs : ev_H} : (g ++ x :: xs).set g.length y = g ++ y :: xs := by simp
variable {l : Launch} {d : Nat} {own nm : String} {cc : ByteArray} {nL : Nat} {ret : Option FieldType} {pc pc' : Nat} {lc : ev_L} {st : List Value} {h' g xs xs' : ev_H} {x : va_E} {v : Option Value}
theorem ev_put_g {idx ci k : Nat} {fs fs' : List Value} {x : Value} {ty : FieldType} (hf : ev_P own nm idx ci k ty) (hd : decode cc pc = .ok (.putfield idx, 3)) (hp : pc + 3 = pc') (hn : narrow ty x = x) (hfit : fits ty x = true) (hlen : k < fs.length) (hs : fs.set k x = fs') (kk : Ev l d own nm cc nL ret pc' lc st (g ++ .inr (ci, fs') :: xs) v h') : Ev l d own nm cc nL ret pc lc (x :: .ref g.length :: st) (g ++ .inr (ci, fs) :: xs) v h' := by
  refine ev_putfield hf hd hp gp_get hn hfit hlen ?_
  rw [gp_set, hs]
  exact kk
theorem ar0 : (fun _ => 0 : Nat → Int32) = arI (fun _ => 0) := by funext k; rfl
theorem gp_len : (g ++ x :: xs).length = g.length + (xs.length + 1) := by simp
theorem gp_app {y : va_E} : (g ++ x :: xs) ++ [y] = g ++ x :: (xs ++ [y]) := by simp
theorem ev_newI_g {n : Int32} {N k : Nat} (hw : Cond.arrayClass .int ∈ bg_tbl) (hd : decode cc pc = .ok (.newarray .int, 2)) (hp : pc + 2 = pc') (hn : ¬ n < 0) (hN : n.toNatClampNeg = N) (hN2 : N ≤ 1000) (hL : xs ++ [mA N (fun _ => 0)] = xs') (hk : xs.length + 1 = k) (kk : Ev l d own nm cc nL ret pc' lc (.ref (g.length + k) :: st) (g ++ x :: xs') v h') : Ev l d own nm cc nL ret pc lc (.int n :: st) (g ++ x :: xs) v h' := by
  refine ev_newI hw hd hp hn hN hN2 ?_
  rw [gp_len, gp_app, hk, ar0, hL]
  exact kk
theorem ev_newZ_g {n : Int32} {N k : Nat} (hw : Cond.arrayClass .boolean ∈ bg_tbl) (hd : decode cc pc = .ok (.newarray .boolean, 2)) (hp : pc + 2 = pc') (hn : ¬ n < 0) (hN : n.toNatClampNeg = N) (hN2 : N ≤ 1000) (hL : xs ++ [mZ N (fun _ => 0)] = xs') (hk : xs.length + 1 = k) (kk : Ev l d own nm cc nL ret pc' lc (.ref (g.length + k) :: st) (g ++ x :: xs') v h') : Ev l d own nm cc nL ret pc lc (.int n :: st) (g ++ x :: xs) v h' := by
  refine ev_newZ hw hd hp hn hN hN2 ?_
  rw [gp_len, gp_app, hk, ar0, hL]
  exact kk
theorem ev_newA_g {n : Int32} {N kd idx k : Nat} {Cn : String} (hkd : (kd = 3 ∧ Cn = RX1) ∨ (kd = 4 ∧ Cn = RX3)) (hw : Cond.classLink own idx Cn ∈ bg_tbl) (hd : decode cc pc = .ok (.anewarray idx, 3)) (hp : pc + 3 = pc') (hn : ¬ n < 0) (hN : n.toNatClampNeg = N) (hN2 : N ≤ 1000) (hL : xs ++ [cRf kd N (fun _ => none)] = xs') (hk : xs.length + 1 = k) (kk : Ev l d own nm cc nL ret pc' lc (.ref (g.length + k) :: st) (g ++ x :: xs') v h') : Ev l d own nm cc nL ret pc lc (.int n :: st) (g ++ x :: xs) v h' := by
  refine ev_newA hkd hw hd hp hn hN hN2 ?_
  rw [gp_len, gp_app, hk, hL]
  exact kk
theorem e4_init : Ev l 1 yX4_init.cls yX4_init.name cX4_init 1 none 0 [some (.ref g.length)] [] (g ++ [.inr (4, [.int 0, .int 0, .int 0, .null, .null, .null, .null, .null, .null])]) none (g ++ [cWo 0 0 180 (g.length + 1) (g.length + 2) (g.length + 3) (g.length + 4) (g.length + 5) (g.length + 6), mA 10 (fun _ => 0), mA 10 (fun _ => 0), mA 10 (fun _ => 0), mA 10 (fun _ => 0), mA 100 (fun _ => 0), cRf 4 8 (fun _ => none)]) := by
  refine ev_aload_n (pc' := 1) dX4_init_0 rfl rfl ?_
  refine ev_objinit (pc' := 4) oX4_3 dX4_init_1 rfl (by decide) (Nat.le_of_ble_eq_true rfl) ?_
  refine ev_aload_n (pc' := 5) dX4_init_4 rfl rfl ?_
  refine ev_iconst (pc' := 6) (iI (0)) dX4_init_5 rfl (by decide) ?_
  refine ev_put_g (pc' := 9) (fs' := [.int (iI (0)), .int 0, .int 0, .null, .null, .null, .null, .null, .null]) (pX4_9 _) dX4_init_6 rfl rfl rfl (Nat.le_of_ble_eq_true rfl) rfl ?_
  refine ev_aload_n (pc' := 10) dX4_init_9 rfl rfl ?_
  refine ev_iconst (pc' := 11) (iI (0)) dX4_init_10 rfl (by decide) ?_
  refine ev_put_g (pc' := 14) (fs' := [.int (iI (0)), .int (iI (0)), .int 0, .null, .null, .null, .null, .null, .null]) (pX4_15 _) dX4_init_11 rfl rfl rfl (Nat.le_of_ble_eq_true rfl) rfl ?_
  refine ev_aload_n (pc' := 15) dX4_init_14 rfl rfl ?_
  refine ev_sipush (pc' := 18) (iI (180)) dX4_init_15 rfl (by decide) ?_
  refine ev_put_g (pc' := 21) (fs' := [.int (iI (0)), .int (iI (0)), .int (iI (180)), .null, .null, .null, .null, .null, .null]) (pX4_18 _) dX4_init_18 rfl rfl rfl (Nat.le_of_ble_eq_true rfl) rfl ?_
  refine ev_aload_n (pc' := 22) dX4_init_21 rfl rfl ?_
  refine ev_bipush (pc' := 24) (iI (10)) dX4_init_22 rfl (by decide) ?_
  refine ev_newI_g (pc' := 26) (N := 10) (k := 1) (xs' := [mA 10 (fun _ => 0)]) bg_int dX4_init_24 rfl (by decide) (by decide) (by decide) rfl rfl ?_
  refine ev_put_g (pc' := 29) (fs' := [.int (iI (0)), .int (iI (0)), .int (iI (180)), .ref (g.length + 1), .null, .null, .null, .null, .null]) pX4_21 dX4_init_26 rfl rfl rfl (Nat.le_of_ble_eq_true rfl) rfl ?_
  refine ev_aload_n (pc' := 30) dX4_init_29 rfl rfl ?_
  refine ev_bipush (pc' := 32) (iI (10)) dX4_init_30 rfl (by decide) ?_
  refine ev_newI_g (pc' := 34) (N := 10) (k := 2) (xs' := [mA 10 (fun _ => 0), mA 10 (fun _ => 0)]) bg_int dX4_init_32 rfl (by decide) (by decide) (by decide) rfl rfl ?_
  refine ev_put_g (pc' := 37) (fs' := [.int (iI (0)), .int (iI (0)), .int (iI (180)), .ref (g.length + 1), .ref (g.length + 2), .null, .null, .null, .null]) pX4_25 dX4_init_34 rfl rfl rfl (Nat.le_of_ble_eq_true rfl) rfl ?_
  refine ev_aload_n (pc' := 38) dX4_init_37 rfl rfl ?_
  refine ev_bipush (pc' := 40) (iI (10)) dX4_init_38 rfl (by decide) ?_
  refine ev_newI_g (pc' := 42) (N := 10) (k := 3) (xs' := [mA 10 (fun _ => 0), mA 10 (fun _ => 0), mA 10 (fun _ => 0)]) bg_int dX4_init_40 rfl (by decide) (by decide) (by decide) rfl rfl ?_
  refine ev_put_g (pc' := 45) (fs' := [.int (iI (0)), .int (iI (0)), .int (iI (180)), .ref (g.length + 1), .ref (g.length + 2), .ref (g.length + 3), .null, .null, .null]) pX4_28 dX4_init_42 rfl rfl rfl (Nat.le_of_ble_eq_true rfl) rfl ?_
  refine ev_aload_n (pc' := 46) dX4_init_45 rfl rfl ?_
  refine ev_bipush (pc' := 48) (iI (10)) dX4_init_46 rfl (by decide) ?_
  refine ev_newI_g (pc' := 50) (N := 10) (k := 4) (xs' := [mA 10 (fun _ => 0), mA 10 (fun _ => 0), mA 10 (fun _ => 0), mA 10 (fun _ => 0)]) bg_int dX4_init_48 rfl (by decide) (by decide) (by decide) rfl rfl ?_
  refine ev_put_g (pc' := 53) (fs' := [.int (iI (0)), .int (iI (0)), .int (iI (180)), .ref (g.length + 1), .ref (g.length + 2), .ref (g.length + 3), .ref (g.length + 4), .null, .null]) pX4_31 dX4_init_50 rfl rfl rfl (Nat.le_of_ble_eq_true rfl) rfl ?_
  refine ev_aload_n (pc' := 54) dX4_init_53 rfl rfl ?_
  refine ev_bipush (pc' := 56) (iI (100)) dX4_init_54 rfl (by decide) ?_
  refine ev_newI_g (pc' := 58) (N := 100) (k := 5) (xs' := [mA 10 (fun _ => 0), mA 10 (fun _ => 0), mA 10 (fun _ => 0), mA 10 (fun _ => 0), mA 100 (fun _ => 0)]) bg_int dX4_init_56 rfl (by decide) (by decide) (by decide) rfl rfl ?_
  refine ev_put_g (pc' := 61) (fs' := [.int (iI (0)), .int (iI (0)), .int (iI (180)), .ref (g.length + 1), .ref (g.length + 2), .ref (g.length + 3), .ref (g.length + 4), .ref (g.length + 5), .null]) pX4_34 dX4_init_58 rfl rfl rfl (Nat.le_of_ble_eq_true rfl) rfl ?_
  refine ev_aload_n (pc' := 62) dX4_init_61 rfl rfl ?_
  refine ev_bipush (pc' := 64) (iI (8)) dX4_init_62 rfl (by decide) ?_
  refine ev_newA_g (pc' := 67) (N := 8) (k := 6) (xs' := [mA 10 (fun _ => 0), mA 10 (fun _ => 0), mA 10 (fun _ => 0), mA 10 (fun _ => 0), mA 100 (fun _ => 0), cRf 4 8 (fun _ => none)]) (by first | exact Or.inl ⟨rfl, rfl⟩ | exact Or.inr ⟨rfl, rfl⟩) lX4_37 dX4_init_64 rfl (by decide) (by decide) (by decide) rfl rfl ?_
  refine ev_put_g (pc' := 70) (fs' := [.int (iI (0)), .int (iI (0)), .int (iI (180)), .ref (g.length + 1), .ref (g.length + 2), .ref (g.length + 3), .ref (g.length + 4), .ref (g.length + 5), .ref (g.length + 6)]) pX4_39 dX4_init_67 rfl rfl rfl (Nat.le_of_ble_eq_true rfl) rfl ?_
  exact ev_vret dX4_init_70
theorem e3_init : Ev l 1 yX3_init.cls yX3_init.name cX3_init 1 none 0 [some (.ref g.length)] [] (g ++ [.inr (3, [.int 0, .int 0, .int 0, .int 0, .int 0, .int 0, .null, .null, .null, .int 0, .null, .null])]) none (g ++ [cTr 0 0 0 0 0 0 0 (g.length + 1) (g.length + 2) (g.length + 3) (g.length + 4) (g.length + 5), mA 6 (fun _ => 0), mA 6 (fun _ => 0), mA 6 (fun _ => 0), mA 8 (fun _ => 0), mA 8 (fun _ => 0)]) := by
  refine ev_aload_n (pc' := 1) dX3_init_0 rfl rfl ?_
  refine ev_objinit (pc' := 4) oX3_3 dX3_init_1 rfl (by decide) (Nat.le_of_ble_eq_true rfl) ?_
  refine ev_aload_n (pc' := 5) dX3_init_4 rfl rfl ?_
  refine ev_iconst (pc' := 6) (iI (0)) dX3_init_5 rfl (by decide) ?_
  refine ev_put_g (pc' := 9) (fs' := [.int (iI (0)), .int 0, .int 0, .int 0, .int 0, .int 0, .null, .null, .null, .int 0, .null, .null]) (pX3_9 _) dX3_init_6 rfl rfl rfl (Nat.le_of_ble_eq_true rfl) rfl ?_
  refine ev_aload_n (pc' := 10) dX3_init_9 rfl rfl ?_
  refine ev_iconst (pc' := 11) (iI (0)) dX3_init_10 rfl (by decide) ?_
  refine ev_put_g (pc' := 14) (fs' := [.int (iI (0)), .int (iI (0)), .int 0, .int 0, .int 0, .int 0, .null, .null, .null, .int 0, .null, .null]) (pX3_15 _) dX3_init_11 rfl rfl rfl (Nat.le_of_ble_eq_true rfl) rfl ?_
  refine ev_aload_n (pc' := 15) dX3_init_14 rfl rfl ?_
  refine ev_iconst (pc' := 16) (iI (0)) dX3_init_15 rfl (by decide) ?_
  refine ev_put_g (pc' := 19) (fs' := [.int (iI (0)), .int (iI (0)), .int (iI (0)), .int 0, .int 0, .int 0, .null, .null, .null, .int 0, .null, .null]) (pX3_18 _) dX3_init_16 rfl rfl rfl (Nat.le_of_ble_eq_true rfl) rfl ?_
  refine ev_aload_n (pc' := 20) dX3_init_19 rfl rfl ?_
  refine ev_iconst (pc' := 21) (iI (0)) dX3_init_20 rfl (by decide) ?_
  refine ev_put_g (pc' := 24) (fs' := [.int (iI (0)), .int (iI (0)), .int (iI (0)), .int (iI (0)), .int 0, .int 0, .null, .null, .null, .int 0, .null, .null]) (pX3_21 _) dX3_init_21 rfl rfl rfl (Nat.le_of_ble_eq_true rfl) rfl ?_
  refine ev_aload_n (pc' := 25) dX3_init_24 rfl rfl ?_
  refine ev_iconst (pc' := 26) (iI (0)) dX3_init_25 rfl (by decide) ?_
  refine ev_put_g (pc' := 29) (fs' := [.int (iI (0)), .int (iI (0)), .int (iI (0)), .int (iI (0)), .int (iI (0)), .int 0, .null, .null, .null, .int 0, .null, .null]) (pX3_24 _) dX3_init_26 rfl rfl rfl (Nat.le_of_ble_eq_true rfl) rfl ?_
  refine ev_aload_n (pc' := 30) dX3_init_29 rfl rfl ?_
  refine ev_iconst (pc' := 31) (iI (0)) dX3_init_30 rfl (by decide) ?_
  refine ev_put_g (pc' := 34) (fs' := [.int (iI (0)), .int (iI (0)), .int (iI (0)), .int (iI (0)), .int (iI (0)), .int (iI (0)), .null, .null, .null, .int 0, .null, .null]) (pX3_27 _) dX3_init_31 rfl rfl rfl (Nat.le_of_ble_eq_true rfl) rfl ?_
  refine ev_aload_n (pc' := 35) dX3_init_34 rfl rfl ?_
  refine ev_bipush (pc' := 37) (iI (6)) dX3_init_35 rfl (by decide) ?_
  refine ev_newI_g (pc' := 39) (N := 6) (k := 1) (xs' := [mA 6 (fun _ => 0)]) bg_int dX3_init_37 rfl (by decide) (by decide) (by decide) rfl rfl ?_
  refine ev_put_g (pc' := 42) (fs' := [.int (iI (0)), .int (iI (0)), .int (iI (0)), .int (iI (0)), .int (iI (0)), .int (iI (0)), .ref (g.length + 1), .null, .null, .int 0, .null, .null]) pX3_30 dX3_init_39 rfl rfl rfl (Nat.le_of_ble_eq_true rfl) rfl ?_
  refine ev_aload_n (pc' := 43) dX3_init_42 rfl rfl ?_
  refine ev_bipush (pc' := 45) (iI (6)) dX3_init_43 rfl (by decide) ?_
  refine ev_newI_g (pc' := 47) (N := 6) (k := 2) (xs' := [mA 6 (fun _ => 0), mA 6 (fun _ => 0)]) bg_int dX3_init_45 rfl (by decide) (by decide) (by decide) rfl rfl ?_
  refine ev_put_g (pc' := 50) (fs' := [.int (iI (0)), .int (iI (0)), .int (iI (0)), .int (iI (0)), .int (iI (0)), .int (iI (0)), .ref (g.length + 1), .ref (g.length + 2), .null, .int 0, .null, .null]) pX3_34 dX3_init_47 rfl rfl rfl (Nat.le_of_ble_eq_true rfl) rfl ?_
  refine ev_aload_n (pc' := 51) dX3_init_50 rfl rfl ?_
  refine ev_bipush (pc' := 53) (iI (6)) dX3_init_51 rfl (by decide) ?_
  refine ev_newI_g (pc' := 55) (N := 6) (k := 3) (xs' := [mA 6 (fun _ => 0), mA 6 (fun _ => 0), mA 6 (fun _ => 0)]) bg_int dX3_init_53 rfl (by decide) (by decide) (by decide) rfl rfl ?_
  refine ev_put_g (pc' := 58) (fs' := [.int (iI (0)), .int (iI (0)), .int (iI (0)), .int (iI (0)), .int (iI (0)), .int (iI (0)), .ref (g.length + 1), .ref (g.length + 2), .ref (g.length + 3), .int 0, .null, .null]) pX3_37 dX3_init_55 rfl rfl rfl (Nat.le_of_ble_eq_true rfl) rfl ?_
  refine ev_aload_n (pc' := 59) dX3_init_58 rfl rfl ?_
  refine ev_iconst (pc' := 60) (iI (0)) dX3_init_59 rfl (by decide) ?_
  refine ev_put_g (pc' := 63) (fs' := [.int (iI (0)), .int (iI (0)), .int (iI (0)), .int (iI (0)), .int (iI (0)), .int (iI (0)), .ref (g.length + 1), .ref (g.length + 2), .ref (g.length + 3), .int (iI (0)), .null, .null]) (pX3_40 _) dX3_init_60 rfl rfl rfl (Nat.le_of_ble_eq_true rfl) rfl ?_
  refine ev_aload_n (pc' := 64) dX3_init_63 rfl rfl ?_
  refine ev_bipush (pc' := 66) (iI (8)) dX3_init_64 rfl (by decide) ?_
  refine ev_newI_g (pc' := 68) (N := 8) (k := 4) (xs' := [mA 6 (fun _ => 0), mA 6 (fun _ => 0), mA 6 (fun _ => 0), mA 8 (fun _ => 0)]) bg_int dX3_init_66 rfl (by decide) (by decide) (by decide) rfl rfl ?_
  refine ev_put_g (pc' := 71) (fs' := [.int (iI (0)), .int (iI (0)), .int (iI (0)), .int (iI (0)), .int (iI (0)), .int (iI (0)), .ref (g.length + 1), .ref (g.length + 2), .ref (g.length + 3), .int (iI (0)), .ref (g.length + 4), .null]) pX3_43 dX3_init_68 rfl rfl rfl (Nat.le_of_ble_eq_true rfl) rfl ?_
  refine ev_aload_n (pc' := 72) dX3_init_71 rfl rfl ?_
  refine ev_bipush (pc' := 74) (iI (8)) dX3_init_72 rfl (by decide) ?_
  refine ev_newI_g (pc' := 76) (N := 8) (k := 5) (xs' := [mA 6 (fun _ => 0), mA 6 (fun _ => 0), mA 6 (fun _ => 0), mA 8 (fun _ => 0), mA 8 (fun _ => 0)]) bg_int dX3_init_74 rfl (by decide) (by decide) (by decide) rfl rfl ?_
  refine ev_put_g (pc' := 79) (fs' := [.int (iI (0)), .int (iI (0)), .int (iI (0)), .int (iI (0)), .int (iI (0)), .int (iI (0)), .ref (g.length + 1), .ref (g.length + 2), .ref (g.length + 3), .int (iI (0)), .ref (g.length + 4), .ref (g.length + 5)]) pX3_46 dX3_init_76 rfl rfl rfl (Nat.le_of_ble_eq_true rfl) rfl ?_
  exact ev_vret dX3_init_79
theorem e1_init : Ev l 1 yX1_init.cls yX1_init.name cX1_init 1 none 0 [some (.ref g.length)] [] (g ++ [.inr (1, [.null, .int 0, .int 0, .int 0, .null])]) none (g ++ [cSh .null 0 0 0 (g.length + 1), mA 100 (fun _ => 0)]) := by
  refine ev_aload_n (pc' := 1) dX1_init_0 rfl rfl ?_
  refine ev_objinit (pc' := 4) oX1_3 dX1_init_1 rfl (by decide) (Nat.le_of_ble_eq_true rfl) ?_
  refine ev_aload_n (pc' := 5) dX1_init_4 rfl rfl ?_
  refine ev_null (pc' := 6) dX1_init_5 rfl ?_
  refine ev_put_g (pc' := 9) (fs' := [.null, .int 0, .int 0, .int 0, .null]) (pX1_9 _) dX1_init_6 rfl rfl rfl (Nat.le_of_ble_eq_true rfl) rfl ?_
  refine ev_aload_n (pc' := 10) dX1_init_9 rfl rfl ?_
  refine ev_iconst (pc' := 11) (iI (0)) dX1_init_10 rfl (by decide) ?_
  refine ev_put_g (pc' := 14) (fs' := [.null, .int (iI (0)), .int 0, .int 0, .null]) (pX1_15 _) dX1_init_11 rfl rfl rfl (Nat.le_of_ble_eq_true rfl) rfl ?_
  refine ev_aload_n (pc' := 15) dX1_init_14 rfl rfl ?_
  refine ev_iconst (pc' := 16) (iI (0)) dX1_init_15 rfl (by decide) ?_
  refine ev_put_g (pc' := 19) (fs' := [.null, .int (iI (0)), .int (iI (0)), .int 0, .null]) (pX1_19 _) dX1_init_16 rfl rfl rfl (Nat.le_of_ble_eq_true rfl) rfl ?_
  refine ev_aload_n (pc' := 20) dX1_init_19 rfl rfl ?_
  refine ev_iconst (pc' := 21) (iI (0)) dX1_init_20 rfl (by decide) ?_
  refine ev_put_g (pc' := 24) (fs' := [.null, .int (iI (0)), .int (iI (0)), .int (iI (0)), .null]) (pX1_23 _) dX1_init_21 rfl rfl rfl (Nat.le_of_ble_eq_true rfl) rfl ?_
  refine ev_aload_n (pc' := 25) dX1_init_24 rfl rfl ?_
  refine ev_bipush (pc' := 27) (iI (100)) dX1_init_25 rfl (by decide) ?_
  refine ev_newI_g (pc' := 29) (N := 100) (k := 1) (xs' := [mA 100 (fun _ => 0)]) bg_int dX1_init_27 rfl (by decide) (by decide) (by decide) rfl rfl ?_
  refine ev_put_g (pc' := 32) (fs' := [.null, .int (iI (0)), .int (iI (0)), .int (iI (0)), .ref (g.length + 1)]) pX1_26 dX1_init_29 rfl rfl rfl (Nat.le_of_ble_eq_true rfl) rfl ?_
  exact ev_vret dX1_init_32
theorem e2_init : Ev l 1 yX2_init.cls yX2_init.name cX2_init 1 none 0 [some (.ref g.length)] [] (g ++ [.inr (2, [.int 0, .int 0, .int 0, .long 0, .long 0, .long 0])]) none (g ++ [cSp (-4) 0 0 0 0 1]) := by
  refine ev_aload_n (pc' := 1) dX2_init_0 rfl rfl ?_
  refine ev_objinit (pc' := 4) oX2_3 dX2_init_1 rfl (by decide) (Nat.le_of_ble_eq_true rfl) ?_
  refine ev_aload_n (pc' := 5) dX2_init_4 rfl rfl ?_
  refine ev_bipush (pc' := 7) (iI (-4)) dX2_init_5 rfl (by decide) ?_
  refine ev_put_g (pc' := 10) (fs' := [.int (iI (-4)), .int 0, .int 0, .long 0, .long 0, .long 0]) (pX2_9 _) dX2_init_7 rfl rfl rfl (Nat.le_of_ble_eq_true rfl) rfl ?_
  refine ev_aload_n (pc' := 11) dX2_init_10 rfl rfl ?_
  refine ev_iconst (pc' := 12) (iI (0)) dX2_init_11 rfl (by decide) ?_
  refine ev_put_g (pc' := 15) (fs' := [.int (iI (-4)), .int (iI (0)), .int 0, .long 0, .long 0, .long 0]) (pX2_15 _) dX2_init_12 rfl rfl rfl (Nat.le_of_ble_eq_true rfl) rfl ?_
  refine ev_aload_n (pc' := 16) dX2_init_15 rfl rfl ?_
  refine ev_iconst (pc' := 17) (iI (0)) dX2_init_16 rfl (by decide) ?_
  refine ev_put_g (pc' := 20) (fs' := [.int (iI (-4)), .int (iI (0)), .int (iI (0)), .long 0, .long 0, .long 0]) (pX2_18 _) dX2_init_17 rfl rfl rfl (Nat.le_of_ble_eq_true rfl) rfl ?_
  refine ev_aload_n (pc' := 21) dX2_init_20 rfl rfl ?_
  refine ev_lconst (pc' := 22) (jJ (0)) dX2_init_21 rfl (by decide) ?_
  refine ev_put_g (pc' := 25) (fs' := [.int (iI (-4)), .int (iI (0)), .int (iI (0)), .long (jJ (0)), .long 0, .long 0]) (pX2_21 _) dX2_init_22 rfl rfl rfl (Nat.le_of_ble_eq_true rfl) rfl ?_
  refine ev_aload_n (pc' := 26) dX2_init_25 rfl rfl ?_
  refine ev_lconst (pc' := 27) (jJ (0)) dX2_init_26 rfl (by decide) ?_
  refine ev_put_g (pc' := 30) (fs' := [.int (iI (-4)), .int (iI (0)), .int (iI (0)), .long (jJ (0)), .long (jJ (0)), .long 0]) (pX2_25 _) dX2_init_27 rfl rfl rfl (Nat.le_of_ble_eq_true rfl) rfl ?_
  refine ev_aload_n (pc' := 31) dX2_init_30 rfl rfl ?_
  refine ev_lconst (pc' := 32) (jJ (1)) dX2_init_31 rfl (by decide) ?_
  refine ev_put_g (pc' := 35) (fs' := [.int (iI (-4)), .int (iI (0)), .int (iI (0)), .long (jJ (0)), .long (jJ (0)), .long (jJ (1))]) (pX2_28 _) dX2_init_32 rfl rfl rfl (Nat.le_of_ble_eq_true rfl) rfl ?_
  exact ev_vret dX2_init_35
theorem e0_init : Ev l 1 yX0_init.cls yX0_init.name cX0_init 1 none 0 [some (.ref g.length)] [] (g ++ [.inr (0, [.null, .int 0, .int 0, .int 0, .int 0, .int 0, .int 0, .int 0, .int 0])]) none (g ++ [cRd .null 0 0 0 0 0 0 0 0]) := by
  refine ev_aload_n (pc' := 1) dX0_init_0 rfl rfl ?_
  refine ev_objinit (pc' := 4) oX0_3 dX0_init_1 rfl (by decide) (Nat.le_of_ble_eq_true rfl) ?_
  refine ev_aload_n (pc' := 5) dX0_init_4 rfl rfl ?_
  refine ev_null (pc' := 6) dX0_init_5 rfl ?_
  refine ev_put_g (pc' := 9) (fs' := [.null, .int 0, .int 0, .int 0, .int 0, .int 0, .int 0, .int 0, .int 0]) (pX0_9 _) dX0_init_6 rfl rfl rfl (Nat.le_of_ble_eq_true rfl) rfl ?_
  refine ev_aload_n (pc' := 10) dX0_init_9 rfl rfl ?_
  refine ev_iconst (pc' := 11) (iI (0)) dX0_init_10 rfl (by decide) ?_
  refine ev_put_g (pc' := 14) (fs' := [.null, .int (iI (0)), .int 0, .int 0, .int 0, .int 0, .int 0, .int 0, .int 0]) (pX0_15 _) dX0_init_11 rfl rfl rfl (Nat.le_of_ble_eq_true rfl) rfl ?_
  refine ev_aload_n (pc' := 15) dX0_init_14 rfl rfl ?_
  refine ev_iconst (pc' := 16) (iI (0)) dX0_init_15 rfl (by decide) ?_
  refine ev_put_g (pc' := 19) (fs' := [.null, .int (iI (0)), .int (iI (0)), .int 0, .int 0, .int 0, .int 0, .int 0, .int 0]) (pX0_19 _) dX0_init_16 rfl rfl rfl (Nat.le_of_ble_eq_true rfl) rfl ?_
  refine ev_aload_n (pc' := 20) dX0_init_19 rfl rfl ?_
  refine ev_iconst (pc' := 21) (iI (0)) dX0_init_20 rfl (by decide) ?_
  refine ev_put_g (pc' := 24) (fs' := [.null, .int (iI (0)), .int (iI (0)), .int (iI (0)), .int 0, .int 0, .int 0, .int 0, .int 0]) (pX0_22 _) dX0_init_21 rfl rfl rfl (Nat.le_of_ble_eq_true rfl) rfl ?_
  refine ev_aload_n (pc' := 25) dX0_init_24 rfl rfl ?_
  refine ev_iconst (pc' := 26) (iI (0)) dX0_init_25 rfl (by decide) ?_
  refine ev_put_g (pc' := 29) (fs' := [.null, .int (iI (0)), .int (iI (0)), .int (iI (0)), .int (iI (0)), .int 0, .int 0, .int 0, .int 0]) (pX0_25 _) dX0_init_26 rfl rfl rfl (Nat.le_of_ble_eq_true rfl) rfl ?_
  refine ev_aload_n (pc' := 30) dX0_init_29 rfl rfl ?_
  refine ev_iconst (pc' := 31) (iI (0)) dX0_init_30 rfl (by decide) ?_
  refine ev_put_g (pc' := 34) (fs' := [.null, .int (iI (0)), .int (iI (0)), .int (iI (0)), .int (iI (0)), .int (iI (0)), .int 0, .int 0, .int 0]) (pX0_28 _) dX0_init_31 rfl rfl rfl (Nat.le_of_ble_eq_true rfl) rfl ?_
  refine ev_aload_n (pc' := 35) dX0_init_34 rfl rfl ?_
  refine ev_iconst (pc' := 36) (iI (0)) dX0_init_35 rfl (by decide) ?_
  refine ev_put_g (pc' := 39) (fs' := [.null, .int (iI (0)), .int (iI (0)), .int (iI (0)), .int (iI (0)), .int (iI (0)), .int (iI (0)), .int 0, .int 0]) (pX0_31 _) dX0_init_36 rfl rfl rfl (Nat.le_of_ble_eq_true rfl) rfl ?_
  refine ev_aload_n (pc' := 40) dX0_init_39 rfl rfl ?_
  refine ev_iconst (pc' := 41) (iI (0)) dX0_init_40 rfl (by decide) ?_
  refine ev_put_g (pc' := 44) (fs' := [.null, .int (iI (0)), .int (iI (0)), .int (iI (0)), .int (iI (0)), .int (iI (0)), .int (iI (0)), .int (iI (0)), .int 0]) (pX0_34 _) dX0_init_41 rfl rfl rfl (Nat.le_of_ble_eq_true rfl) rfl ?_
  refine ev_aload_n (pc' := 45) dX0_init_44 rfl rfl ?_
  refine ev_iconst (pc' := 46) (iI (0)) dX0_init_45 rfl (by decide) ?_
  refine ev_put_g (pc' := 49) (fs' := [.null, .int (iI (0)), .int (iI (0)), .int (iI (0)), .int (iI (0)), .int (iI (0)), .int (iI (0)), .int (iI (0)), .int (iI (0))]) (pX0_37 _) dX0_init_46 rfl rfl rfl (Nat.le_of_ble_eq_true rfl) rfl ?_
  exact ev_vret dX0_init_49
theorem gp_i (i : Nat) : (g ++ x :: xs)[g.length + i]? = (x :: xs)[i]? := by rw [List.getElem?_append_right (by omega)]; congr 1; omega
theorem gp_j {i : Nat} (hi : i < g.length) : (g ++ xs)[i]? = g[i]? := List.getElem?_append_left hi
def mA0 : Nat → Int → Int := upA (fun _ _ => 0) 0 (upI (fun _ => 0) 2 180)
theorem e6_iniM (hg : g.length = 34) : MW (g ++ [.inr (6, [.ref (g.length + 1), .ref (g.length + 2), .ref (g.length + 3), .ref (g.length + 4), .ref (g.length + 5), .ref (g.length + 6), .ref (g.length + 7), .ref (g.length + 8), .ref (g.length + 9), .int 0, .int 0, .int 0, .int 0, .int 0, .int 0, .int 0, .int 0, .ref (g.length + 10), .ref (g.length + 11), .long 0, .long 0, .int 0, .int 0]), mA 503 (upI (fun _ => 0) 2 180), mA 503 (fun _ => 0), mA 8 (fun _ => 0), mA 8 (fun _ => 0), mA 8 (fun _ => 0), mA 800 (fun _ => 0), mA 8 (fun _ => 0), mA 360 (fun _ => 0), mZ 8 (fun _ => 0), mA 3 (fun _ => 0), mA 503 (fun _ => 0)]) (fun _ => 0) mA0 := by
  have k := fun i => gp_i (g := g) (x := .inr (6, [.ref (g.length + 1), .ref (g.length + 2), .ref (g.length + 3), .ref (g.length + 4), .ref (g.length + 5), .ref (g.length + 6), .ref (g.length + 7), .ref (g.length + 8), .ref (g.length + 9), .int 0, .int 0, .int 0, .int 0, .int 0, .int 0, .int 0, .int 0, .ref (g.length + 10), .ref (g.length + 11), .long 0, .long 0, .int 0, .int 0])) (xs := [mA 503 (upI (fun _ => 0) 2 180), mA 503 (fun _ => 0), mA 8 (fun _ => 0), mA 8 (fun _ => 0), mA 8 (fun _ => 0), mA 800 (fun _ => 0), mA 8 (fun _ => 0), mA 360 (fun _ => 0), mZ 8 (fun _ => 0), mA 3 (fun _ => 0), mA 503 (fun _ => 0)]) i
  rw [hg] at k
  refine ⟨?_, ?_, ?_, ?_, ?_, ?_, ?_, ?_, ?_, ?_, ?_, ?_⟩
  · rw [hg]; exact k 0
  · rw [hg]; exact k 1
  · rw [hg]; exact k 2
  · rw [hg]; exact k 3
  · rw [hg]; exact k 4
  · rw [hg]; exact k 5
  · rw [hg]; exact k 6
  · rw [hg]; exact k 7
  · rw [hg]; exact k 8
  · rw [hg]; exact k 9
  · rw [hg]; exact k 10
  · rw [hg]; exact k 11
theorem e6_init (hg : g.length = 34) : Ex l 1 yX6_init.cls yX6_init.name cX6_init 1 none 0 [some (.ref 34)] [] (g ++ [.inr (6, [.null, .null, .null, .null, .null, .null, .null, .null, .null, .int 0, .int 0, .int 0, .int 0, .int 0, .int 0, .int 0, .int 0, .null, .null, .long 0, .long 0, .int 0, .int 0])]) (fun v h2 => v = none ∧ MW h2 (fun _ => 0) mA0 ∧ h2.length = 46 ∧ ∀ j, j < 34 → h2[j]? = g[j]?) := by
  rw [← hg]
  refine ex_of (fun _ _ => ev_aload_n (pc' := 1) dX6_init_0 rfl rfl) ?_
  refine ex_of (fun _ _ => ev_objinit (pc' := 4) oX6_1 dX6_init_1 rfl (by decide) (Nat.le_of_ble_eq_true rfl)) ?_
  refine ex_of (fun _ _ => ev_aload_n (pc' := 5) dX6_init_4 rfl rfl) ?_
  refine ex_of (fun _ _ => ev_sipush (pc' := 8) (iI (503)) dX6_init_5 rfl (by decide)) ?_
  refine ex_of (fun _ _ => ev_newI_g (pc' := 10) (N := 503) (k := 1) (xs' := [mA 503 (fun _ => 0)]) bg_int dX6_init_8 rfl (by decide) (by decide) (by decide) rfl rfl) ?_
  refine ex_of (fun _ _ => ev_put_g (pc' := 13) (fs' := [.ref (g.length + 1), .null, .null, .null, .null, .null, .null, .null, .null, .int 0, .int 0, .int 0, .int 0, .int 0, .int 0, .int 0, .int 0, .null, .null, .long 0, .long 0, .int 0, .int 0]) pX6_9 dX6_init_10 rfl rfl rfl (Nat.le_of_ble_eq_true rfl) rfl) ?_
  refine ex_of (fun _ _ => ev_aload_n (pc' := 14) dX6_init_13 rfl rfl) ?_
  refine ex_of (fun _ _ => ev_sipush (pc' := 17) (iI (503)) dX6_init_14 rfl (by decide)) ?_
  refine ex_of (fun _ _ => ev_newI_g (pc' := 19) (N := 503) (k := 2) (xs' := [mA 503 (fun _ => 0), mA 503 (fun _ => 0)]) bg_int dX6_init_17 rfl (by decide) (by decide) (by decide) rfl rfl) ?_
  refine ex_of (fun _ _ => ev_put_g (pc' := 22) (fs' := [.ref (g.length + 1), .ref (g.length + 2), .null, .null, .null, .null, .null, .null, .null, .int 0, .int 0, .int 0, .int 0, .int 0, .int 0, .int 0, .int 0, .null, .null, .long 0, .long 0, .int 0, .int 0]) pX6_13 dX6_init_19 rfl rfl rfl (Nat.le_of_ble_eq_true rfl) rfl) ?_
  refine ex_of (fun _ _ => ev_aload_n (pc' := 23) dX6_init_22 rfl rfl) ?_
  refine ex_of (fun _ _ => ev_bipush (pc' := 25) (iI (8)) dX6_init_23 rfl (by decide)) ?_
  refine ex_of (fun _ _ => ev_newI_g (pc' := 27) (N := 8) (k := 3) (xs' := [mA 503 (fun _ => 0), mA 503 (fun _ => 0), mA 8 (fun _ => 0)]) bg_int dX6_init_25 rfl (by decide) (by decide) (by decide) rfl rfl) ?_
  refine ex_of (fun _ _ => ev_put_g (pc' := 30) (fs' := [.ref (g.length + 1), .ref (g.length + 2), .ref (g.length + 3), .null, .null, .null, .null, .null, .null, .int 0, .int 0, .int 0, .int 0, .int 0, .int 0, .int 0, .int 0, .null, .null, .long 0, .long 0, .int 0, .int 0]) pX6_16 dX6_init_27 rfl rfl rfl (Nat.le_of_ble_eq_true rfl) rfl) ?_
  refine ex_of (fun _ _ => ev_aload_n (pc' := 31) dX6_init_30 rfl rfl) ?_
  refine ex_of (fun _ _ => ev_bipush (pc' := 33) (iI (8)) dX6_init_31 rfl (by decide)) ?_
  refine ex_of (fun _ _ => ev_newI_g (pc' := 35) (N := 8) (k := 4) (xs' := [mA 503 (fun _ => 0), mA 503 (fun _ => 0), mA 8 (fun _ => 0), mA 8 (fun _ => 0)]) bg_int dX6_init_33 rfl (by decide) (by decide) (by decide) rfl rfl) ?_
  refine ex_of (fun _ _ => ev_put_g (pc' := 38) (fs' := [.ref (g.length + 1), .ref (g.length + 2), .ref (g.length + 3), .ref (g.length + 4), .null, .null, .null, .null, .null, .int 0, .int 0, .int 0, .int 0, .int 0, .int 0, .int 0, .int 0, .null, .null, .long 0, .long 0, .int 0, .int 0]) pX6_19 dX6_init_35 rfl rfl rfl (Nat.le_of_ble_eq_true rfl) rfl) ?_
  refine ex_of (fun _ _ => ev_aload_n (pc' := 39) dX6_init_38 rfl rfl) ?_
  refine ex_of (fun _ _ => ev_bipush (pc' := 41) (iI (8)) dX6_init_39 rfl (by decide)) ?_
  refine ex_of (fun _ _ => ev_newI_g (pc' := 43) (N := 8) (k := 5) (xs' := [mA 503 (fun _ => 0), mA 503 (fun _ => 0), mA 8 (fun _ => 0), mA 8 (fun _ => 0), mA 8 (fun _ => 0)]) bg_int dX6_init_41 rfl (by decide) (by decide) (by decide) rfl rfl) ?_
  refine ex_of (fun _ _ => ev_put_g (pc' := 46) (fs' := [.ref (g.length + 1), .ref (g.length + 2), .ref (g.length + 3), .ref (g.length + 4), .ref (g.length + 5), .null, .null, .null, .null, .int 0, .int 0, .int 0, .int 0, .int 0, .int 0, .int 0, .int 0, .null, .null, .long 0, .long 0, .int 0, .int 0]) pX6_22 dX6_init_43 rfl rfl rfl (Nat.le_of_ble_eq_true rfl) rfl) ?_
  refine ex_of (fun _ _ => ev_aload_n (pc' := 47) dX6_init_46 rfl rfl) ?_
  refine ex_of (fun _ _ => ev_sipush (pc' := 50) (iI (800)) dX6_init_47 rfl (by decide)) ?_
  refine ex_of (fun _ _ => ev_newI_g (pc' := 52) (N := 800) (k := 6) (xs' := [mA 503 (fun _ => 0), mA 503 (fun _ => 0), mA 8 (fun _ => 0), mA 8 (fun _ => 0), mA 8 (fun _ => 0), mA 800 (fun _ => 0)]) bg_int dX6_init_50 rfl (by decide) (by decide) (by decide) rfl rfl) ?_
  refine ex_of (fun _ _ => ev_put_g (pc' := 55) (fs' := [.ref (g.length + 1), .ref (g.length + 2), .ref (g.length + 3), .ref (g.length + 4), .ref (g.length + 5), .ref (g.length + 6), .null, .null, .null, .int 0, .int 0, .int 0, .int 0, .int 0, .int 0, .int 0, .int 0, .null, .null, .long 0, .long 0, .int 0, .int 0]) pX6_25 dX6_init_52 rfl rfl rfl (Nat.le_of_ble_eq_true rfl) rfl) ?_
  refine ex_of (fun _ _ => ev_aload_n (pc' := 56) dX6_init_55 rfl rfl) ?_
  refine ex_of (fun _ _ => ev_bipush (pc' := 58) (iI (8)) dX6_init_56 rfl (by decide)) ?_
  refine ex_of (fun _ _ => ev_newI_g (pc' := 60) (N := 8) (k := 7) (xs' := [mA 503 (fun _ => 0), mA 503 (fun _ => 0), mA 8 (fun _ => 0), mA 8 (fun _ => 0), mA 8 (fun _ => 0), mA 800 (fun _ => 0), mA 8 (fun _ => 0)]) bg_int dX6_init_58 rfl (by decide) (by decide) (by decide) rfl rfl) ?_
  refine ex_of (fun _ _ => ev_put_g (pc' := 63) (fs' := [.ref (g.length + 1), .ref (g.length + 2), .ref (g.length + 3), .ref (g.length + 4), .ref (g.length + 5), .ref (g.length + 6), .ref (g.length + 7), .null, .null, .int 0, .int 0, .int 0, .int 0, .int 0, .int 0, .int 0, .int 0, .null, .null, .long 0, .long 0, .int 0, .int 0]) pX6_28 dX6_init_60 rfl rfl rfl (Nat.le_of_ble_eq_true rfl) rfl) ?_
  refine ex_of (fun _ _ => ev_aload_n (pc' := 64) dX6_init_63 rfl rfl) ?_
  refine ex_of (fun _ _ => ev_sipush (pc' := 67) (iI (360)) dX6_init_64 rfl (by decide)) ?_
  refine ex_of (fun _ _ => ev_newI_g (pc' := 69) (N := 360) (k := 8) (xs' := [mA 503 (fun _ => 0), mA 503 (fun _ => 0), mA 8 (fun _ => 0), mA 8 (fun _ => 0), mA 8 (fun _ => 0), mA 800 (fun _ => 0), mA 8 (fun _ => 0), mA 360 (fun _ => 0)]) bg_int dX6_init_67 rfl (by decide) (by decide) (by decide) rfl rfl) ?_
  refine ex_of (fun _ _ => ev_put_g (pc' := 72) (fs' := [.ref (g.length + 1), .ref (g.length + 2), .ref (g.length + 3), .ref (g.length + 4), .ref (g.length + 5), .ref (g.length + 6), .ref (g.length + 7), .ref (g.length + 8), .null, .int 0, .int 0, .int 0, .int 0, .int 0, .int 0, .int 0, .int 0, .null, .null, .long 0, .long 0, .int 0, .int 0]) pX6_31 dX6_init_69 rfl rfl rfl (Nat.le_of_ble_eq_true rfl) rfl) ?_
  refine ex_of (fun _ _ => ev_aload_n (pc' := 73) dX6_init_72 rfl rfl) ?_
  refine ex_of (fun _ _ => ev_bipush (pc' := 75) (iI (8)) dX6_init_73 rfl (by decide)) ?_
  refine ex_of (fun _ _ => ev_newZ_g (pc' := 77) (N := 8) (k := 9) (xs' := [mA 503 (fun _ => 0), mA 503 (fun _ => 0), mA 8 (fun _ => 0), mA 8 (fun _ => 0), mA 8 (fun _ => 0), mA 800 (fun _ => 0), mA 8 (fun _ => 0), mA 360 (fun _ => 0), mZ 8 (fun _ => 0)]) bg_bool dX6_init_75 rfl (by decide) (by decide) (by decide) rfl rfl) ?_
  refine ex_of (fun _ _ => ev_put_g (pc' := 80) (fs' := [.ref (g.length + 1), .ref (g.length + 2), .ref (g.length + 3), .ref (g.length + 4), .ref (g.length + 5), .ref (g.length + 6), .ref (g.length + 7), .ref (g.length + 8), .ref (g.length + 9), .int 0, .int 0, .int 0, .int 0, .int 0, .int 0, .int 0, .int 0, .null, .null, .long 0, .long 0, .int 0, .int 0]) pX6_34 dX6_init_77 rfl rfl rfl (Nat.le_of_ble_eq_true rfl) rfl) ?_
  refine ex_of (fun _ _ => ev_aload_n (pc' := 81) dX6_init_80 rfl rfl) ?_
  refine ex_of (fun _ _ => ev_iconst (pc' := 82) (iI (3)) dX6_init_81 rfl (by decide)) ?_
  refine ex_of (fun _ _ => ev_newI_g (pc' := 84) (N := 3) (k := 10) (xs' := [mA 503 (fun _ => 0), mA 503 (fun _ => 0), mA 8 (fun _ => 0), mA 8 (fun _ => 0), mA 8 (fun _ => 0), mA 800 (fun _ => 0), mA 8 (fun _ => 0), mA 360 (fun _ => 0), mZ 8 (fun _ => 0), mA 3 (fun _ => 0)]) bg_int dX6_init_82 rfl (by decide) (by decide) (by decide) rfl rfl) ?_
  refine ex_of (fun _ _ => ev_put_g (pc' := 87) (fs' := [.ref (g.length + 1), .ref (g.length + 2), .ref (g.length + 3), .ref (g.length + 4), .ref (g.length + 5), .ref (g.length + 6), .ref (g.length + 7), .ref (g.length + 8), .ref (g.length + 9), .int 0, .int 0, .int 0, .int 0, .int 0, .int 0, .int 0, .int 0, .ref (g.length + 10), .null, .long 0, .long 0, .int 0, .int 0]) pX6_38 dX6_init_84 rfl rfl rfl (Nat.le_of_ble_eq_true rfl) rfl) ?_
  refine ex_of (fun _ _ => ev_aload_n (pc' := 88) dX6_init_87 rfl rfl) ?_
  refine ex_of (fun _ _ => ev_sipush (pc' := 91) (iI (503)) dX6_init_88 rfl (by decide)) ?_
  refine ex_of (fun _ _ => ev_newI_g (pc' := 93) (N := 503) (k := 11) (xs' := [mA 503 (fun _ => 0), mA 503 (fun _ => 0), mA 8 (fun _ => 0), mA 8 (fun _ => 0), mA 8 (fun _ => 0), mA 800 (fun _ => 0), mA 8 (fun _ => 0), mA 360 (fun _ => 0), mZ 8 (fun _ => 0), mA 3 (fun _ => 0), mA 503 (fun _ => 0)]) bg_int dX6_init_91 rfl (by decide) (by decide) (by decide) rfl rfl) ?_
  refine ex_of (fun _ _ => ev_put_g (pc' := 96) (fs' := [.ref (g.length + 1), .ref (g.length + 2), .ref (g.length + 3), .ref (g.length + 4), .ref (g.length + 5), .ref (g.length + 6), .ref (g.length + 7), .ref (g.length + 8), .ref (g.length + 9), .int 0, .int 0, .int 0, .int 0, .int 0, .int 0, .int 0, .int 0, .ref (g.length + 10), .ref (g.length + 11), .long 0, .long 0, .int 0, .int 0]) pX6_41 dX6_init_93 rfl rfl rfl (Nat.le_of_ble_eq_true rfl) rfl) ?_
  refine ex_of (fun _ _ => ev_aload_n (pc' := 97) dX6_init_96 rfl rfl) ?_
  refine ex_of (fun _ _ => ev_getfield (pc' := 100) fX6_9 dX6_init_97 rfl gp_get rfl) ?_
  refine ex_of (fun _ _ => ev_iconst (pc' := 101) (iI (2)) dX6_init_100 rfl (by decide)) ?_
  refine ex_of (fun _ _ => ev_sipush (pc' := 104) (iI (180)) dX6_init_101 rfl (by decide)) ?_
  refine ex_of (fun _ _ => ev_iastoreI (pc' := 105) dX6_init_104 rfl (gp_i 1) (by decide) (by decide)) ?_
  rw [show (g ++ [.inr (6, [.ref (g.length + 1), .ref (g.length + 2), .ref (g.length + 3), .ref (g.length + 4), .ref (g.length + 5), .ref (g.length + 6), .ref (g.length + 7), .ref (g.length + 8), .ref (g.length + 9), .int 0, .int 0, .int 0, .int 0, .int 0, .int 0, .int 0, .int 0, .ref (g.length + 10), .ref (g.length + 11), .long 0, .long 0, .int 0, .int 0]), mA 503 (fun _ => 0), mA 503 (fun _ => 0), mA 8 (fun _ => 0), mA 8 (fun _ => 0), mA 8 (fun _ => 0), mA 800 (fun _ => 0), mA 8 (fun _ => 0), mA 360 (fun _ => 0), mZ 8 (fun _ => 0), mA 3 (fun _ => 0), mA 503 (fun _ => 0)]).set (g.length + 1) (mA 503 (upI (fun _ => 0) 2 180)) = g ++ [.inr (6, [.ref (g.length + 1), .ref (g.length + 2), .ref (g.length + 3), .ref (g.length + 4), .ref (g.length + 5), .ref (g.length + 6), .ref (g.length + 7), .ref (g.length + 8), .ref (g.length + 9), .int 0, .int 0, .int 0, .int 0, .int 0, .int 0, .int 0, .int 0, .ref (g.length + 10), .ref (g.length + 11), .long 0, .long 0, .int 0, .int 0]), mA 503 (upI (fun _ => 0) 2 180), mA 503 (fun _ => 0), mA 8 (fun _ => 0), mA 8 (fun _ => 0), mA 8 (fun _ => 0), mA 800 (fun _ => 0), mA 8 (fun _ => 0), mA 360 (fun _ => 0), mZ 8 (fun _ => 0), mA 3 (fun _ => 0), mA 503 (fun _ => 0)] by rw [List.set_append_right _ _ (by omega)]; simp]
  exact ex_end (ev_vret dX6_init_105) (⟨rfl, e6_iniM hg, by simp [hg], fun j hj => gp_j (by omega)⟩)
end IN
