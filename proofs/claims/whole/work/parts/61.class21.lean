section CY1
variable {l : Launch} {dd : Nat} {own nm : String} {cc : ByteArray} {nL : Nat} {ret : Option FieldType} {pc pc' : Nat} {lc : ev_L} {st : List Value} {h : ev_H} {Post : Option Value → ev_H → Prop}
/-- a row copied whole onto another, the heap behind it by what is known of it -/
theorem xcy {idx a b n : Nat} {S T : Int → Int} {z : Int} (hw : Cond.methodLink own idx arraycopyName ∈ bg_tbl) (hd : decode cc pc = .ok (.invokestatic idx, 3)) (hp : pc + 3 = pc') (hd1 : 1 ≤ dd) (hcat : (st.map fun v => v.category).sum ≤ 8) (ha : h[a]? = some (mA n S)) (hb : h[b]? = some (mA n T)) (hn : n ≤ 100000) (hz : z = n) (kk : ∀ h1 : ev_H, h1.length = h.length → (∃ D, h1[b]? = some (mA n D) ∧ ∀ p : Int, 0 ≤ p → p < n → D p = S p) → (∀ j, j ≠ b → h1[j]? = h[j]?) → Ex l dd own nm cc nL ret pc' lc st h1 Post) : Ex l dd own nm cc nL ret pc lc (.int (iI z) :: .int (iI 0) :: .ref b :: .int (iI 0) :: .ref a :: st) h Post := by
  refine ex_of (fun _ _ => ev_copyI hw hd hp hd1 hcat ha hb (by omega) (by omega) (by omega) (by omega)) (kk _ List.length_set ⟨_, ev_gs hb, fun p p1 p2 => ?_⟩ (fun j hj => set_ne hj))
  unfold cyI
  rw [if_pos (by omega)]
  congr 1
  omega
end CY1
section CY2
variable {l : Launch} {h h0 : ev_H} {S S' U U' : Int → Int} {Fa Fb : Nat → Option Nat} {a b s t : Nat} {nu nu' : Int}
theorem e3_take (hs : CT h0 s U nu) (ht : CT h0 t U' nu') (hst : s + 6 ≤ t ∨ t + 6 ≤ s) : Ex l 1 yX3_take.cls yX3_take.name cX3_take 2 none 0 [some (.ref t), some (.ref s)] [] h0 (fun v h2 => v = none ∧ h2.length = h0.length ∧ (∀ j, ¬ (t ≤ j ∧ j ≤ t + 5) → h2[j]? = h0[j]?) ∧ CT h2 t U nu) := by
  obtain ⟨ea, be, hs0, ⟨to, hs1, e1⟩, ⟨fro, hs2, e2⟩, ⟨en, hs3, e3⟩, ⟨ca, hs4, e4⟩, ⟨cb, hs5, e5⟩⟩ := hs
  obtain ⟨ea', -, hT, ⟨D1, ht1, -⟩, ⟨D2, ht2, -⟩, ⟨D3, ht3, -⟩, ⟨D4, ht4, -⟩, ⟨D5, ht5, -⟩⟩ := ht
  have L : h0.length = h0.length := rfl
  have fr : ∀ j, ¬ (t ≤ j ∧ j ≤ t + 5) → h0[j]? = h0[j]? := fun _ _ => rfl
  refine ex_of (fun _ _ => ev_aload_n (pc' := 1) dX3_take_0 rfl rfl) ?_
  refine ex_of (fun _ _ => ev_aload_n (pc' := 2) dX3_take_1 rfl rfl) ?_
  refine ex_of (fun _ _ => ev_getfield (pc' := 5) fX3_9 dX3_take_2 rfl hs0 rfl) ?_
  refine xpu (pc' := 8) (fs' := [.int (iI nu), .int (iI (U' 0)), .int (iI (U' 1)), .int (iI (U' 2)), .int (iI (U' 3)), .int (iI ea'), .ref (t + 1), .ref (t + 2), .ref (t + 3), .int (iI (U' 28)), .ref (t + 4), .ref (t + 5)]) (pX3_9 _) dX3_take_5 rfl hT rfl rfl (Nat.le_of_ble_eq_true rfl) rfl (fun h L1 hT g1 => ?_)
  have L := L1.trans L
  have fr : ∀ j, ¬ (t ≤ j ∧ j ≤ t + 5) → h[j]? = h0[j]? := fun j hj => (g1 j (by omega)).trans (fr j hj)
  have hs0 := (g1 (s) (by omega)).trans hs0
  have hs1 := (g1 (s + 1) (by omega)).trans hs1
  have hs2 := (g1 (s + 2) (by omega)).trans hs2
  have hs3 := (g1 (s + 3) (by omega)).trans hs3
  have hs4 := (g1 (s + 4) (by omega)).trans hs4
  have hs5 := (g1 (s + 5) (by omega)).trans hs5
  have ht1 := (g1 (t + 1) (by omega)).trans ht1
  have ht2 := (g1 (t + 2) (by omega)).trans ht2
  have ht3 := (g1 (t + 3) (by omega)).trans ht3
  have ht4 := (g1 (t + 4) (by omega)).trans ht4
  have ht5 := (g1 (t + 5) (by omega)).trans ht5
  refine ex_of (fun _ _ => ev_aload_n (pc' := 9) dX3_take_8 rfl rfl) ?_
  refine ex_of (fun _ _ => ev_aload_n (pc' := 10) dX3_take_9 rfl rfl) ?_
  refine ex_of (fun _ _ => ev_getfield (pc' := 13) fX3_15 dX3_take_10 rfl hs0 rfl) ?_
  refine xpu (pc' := 16) (fs' := [.int (iI nu), .int (iI (U 0)), .int (iI (U' 1)), .int (iI (U' 2)), .int (iI (U' 3)), .int (iI ea'), .ref (t + 1), .ref (t + 2), .ref (t + 3), .int (iI (U' 28)), .ref (t + 4), .ref (t + 5)]) (pX3_15 _) dX3_take_13 rfl hT rfl rfl (Nat.le_of_ble_eq_true rfl) rfl (fun h L1 hT g1 => ?_)
  have L := L1.trans L
  have fr : ∀ j, ¬ (t ≤ j ∧ j ≤ t + 5) → h[j]? = h0[j]? := fun j hj => (g1 j (by omega)).trans (fr j hj)
  have hs0 := (g1 (s) (by omega)).trans hs0
  have hs1 := (g1 (s + 1) (by omega)).trans hs1
  have hs2 := (g1 (s + 2) (by omega)).trans hs2
  have hs3 := (g1 (s + 3) (by omega)).trans hs3
  have hs4 := (g1 (s + 4) (by omega)).trans hs4
  have hs5 := (g1 (s + 5) (by omega)).trans hs5
  have ht1 := (g1 (t + 1) (by omega)).trans ht1
  have ht2 := (g1 (t + 2) (by omega)).trans ht2
  have ht3 := (g1 (t + 3) (by omega)).trans ht3
  have ht4 := (g1 (t + 4) (by omega)).trans ht4
  have ht5 := (g1 (t + 5) (by omega)).trans ht5
  refine ex_of (fun _ _ => ev_aload_n (pc' := 17) dX3_take_16 rfl rfl) ?_
  refine ex_of (fun _ _ => ev_aload_n (pc' := 18) dX3_take_17 rfl rfl) ?_
  refine ex_of (fun _ _ => ev_getfield (pc' := 21) fX3_18 dX3_take_18 rfl hs0 rfl) ?_
  refine xpu (pc' := 24) (fs' := [.int (iI nu), .int (iI (U 0)), .int (iI (U 1)), .int (iI (U' 2)), .int (iI (U' 3)), .int (iI ea'), .ref (t + 1), .ref (t + 2), .ref (t + 3), .int (iI (U' 28)), .ref (t + 4), .ref (t + 5)]) (pX3_18 _) dX3_take_21 rfl hT rfl rfl (Nat.le_of_ble_eq_true rfl) rfl (fun h L1 hT g1 => ?_)
  have L := L1.trans L
  have fr : ∀ j, ¬ (t ≤ j ∧ j ≤ t + 5) → h[j]? = h0[j]? := fun j hj => (g1 j (by omega)).trans (fr j hj)
  have hs0 := (g1 (s) (by omega)).trans hs0
  have hs1 := (g1 (s + 1) (by omega)).trans hs1
  have hs2 := (g1 (s + 2) (by omega)).trans hs2
  have hs3 := (g1 (s + 3) (by omega)).trans hs3
  have hs4 := (g1 (s + 4) (by omega)).trans hs4
  have hs5 := (g1 (s + 5) (by omega)).trans hs5
  have ht1 := (g1 (t + 1) (by omega)).trans ht1
  have ht2 := (g1 (t + 2) (by omega)).trans ht2
  have ht3 := (g1 (t + 3) (by omega)).trans ht3
  have ht4 := (g1 (t + 4) (by omega)).trans ht4
  have ht5 := (g1 (t + 5) (by omega)).trans ht5
  refine ex_of (fun _ _ => ev_aload_n (pc' := 25) dX3_take_24 rfl rfl) ?_
  refine ex_of (fun _ _ => ev_aload_n (pc' := 26) dX3_take_25 rfl rfl) ?_
  refine ex_of (fun _ _ => ev_getfield (pc' := 29) fX3_21 dX3_take_26 rfl hs0 rfl) ?_
  refine xpu (pc' := 32) (fs' := [.int (iI nu), .int (iI (U 0)), .int (iI (U 1)), .int (iI (U 2)), .int (iI (U' 3)), .int (iI ea'), .ref (t + 1), .ref (t + 2), .ref (t + 3), .int (iI (U' 28)), .ref (t + 4), .ref (t + 5)]) (pX3_21 _) dX3_take_29 rfl hT rfl rfl (Nat.le_of_ble_eq_true rfl) rfl (fun h L1 hT g1 => ?_)
  have L := L1.trans L
  have fr : ∀ j, ¬ (t ≤ j ∧ j ≤ t + 5) → h[j]? = h0[j]? := fun j hj => (g1 j (by omega)).trans (fr j hj)
  have hs0 := (g1 (s) (by omega)).trans hs0
  have hs1 := (g1 (s + 1) (by omega)).trans hs1
  have hs2 := (g1 (s + 2) (by omega)).trans hs2
  have hs3 := (g1 (s + 3) (by omega)).trans hs3
  have hs4 := (g1 (s + 4) (by omega)).trans hs4
  have hs5 := (g1 (s + 5) (by omega)).trans hs5
  have ht1 := (g1 (t + 1) (by omega)).trans ht1
  have ht2 := (g1 (t + 2) (by omega)).trans ht2
  have ht3 := (g1 (t + 3) (by omega)).trans ht3
  have ht4 := (g1 (t + 4) (by omega)).trans ht4
  have ht5 := (g1 (t + 5) (by omega)).trans ht5
  refine ex_of (fun _ _ => ev_aload_n (pc' := 33) dX3_take_32 rfl rfl) ?_
  refine ex_of (fun _ _ => ev_aload_n (pc' := 34) dX3_take_33 rfl rfl) ?_
  refine ex_of (fun _ _ => ev_getfield (pc' := 37) fX3_24 dX3_take_34 rfl hs0 rfl) ?_
  refine xpu (pc' := 40) (fs' := [.int (iI nu), .int (iI (U 0)), .int (iI (U 1)), .int (iI (U 2)), .int (iI (U 3)), .int (iI ea'), .ref (t + 1), .ref (t + 2), .ref (t + 3), .int (iI (U' 28)), .ref (t + 4), .ref (t + 5)]) (pX3_24 _) dX3_take_37 rfl hT rfl rfl (Nat.le_of_ble_eq_true rfl) rfl (fun h L1 hT g1 => ?_)
  have L := L1.trans L
  have fr : ∀ j, ¬ (t ≤ j ∧ j ≤ t + 5) → h[j]? = h0[j]? := fun j hj => (g1 j (by omega)).trans (fr j hj)
  have hs0 := (g1 (s) (by omega)).trans hs0
  have hs1 := (g1 (s + 1) (by omega)).trans hs1
  have hs2 := (g1 (s + 2) (by omega)).trans hs2
  have hs3 := (g1 (s + 3) (by omega)).trans hs3
  have hs4 := (g1 (s + 4) (by omega)).trans hs4
  have hs5 := (g1 (s + 5) (by omega)).trans hs5
  have ht1 := (g1 (t + 1) (by omega)).trans ht1
  have ht2 := (g1 (t + 2) (by omega)).trans ht2
  have ht3 := (g1 (t + 3) (by omega)).trans ht3
  have ht4 := (g1 (t + 4) (by omega)).trans ht4
  have ht5 := (g1 (t + 5) (by omega)).trans ht5
  refine ex_of (fun _ _ => ev_aload_n (pc' := 41) dX3_take_40 rfl rfl) ?_
  refine ex_of (fun _ _ => ev_aload_n (pc' := 42) dX3_take_41 rfl rfl) ?_
  refine ex_of (fun _ _ => ev_getfield (pc' := 45) fX3_27 dX3_take_42 rfl hs0 rfl) ?_
  refine xpu (pc' := 48) (fs' := [.int (iI nu), .int (iI (U 0)), .int (iI (U 1)), .int (iI (U 2)), .int (iI (U 3)), .int (iI ea), .ref (t + 1), .ref (t + 2), .ref (t + 3), .int (iI (U' 28)), .ref (t + 4), .ref (t + 5)]) (pX3_27 _) dX3_take_45 rfl hT rfl rfl (Nat.le_of_ble_eq_true rfl) rfl (fun h L1 hT g1 => ?_)
  have L := L1.trans L
  have fr : ∀ j, ¬ (t ≤ j ∧ j ≤ t + 5) → h[j]? = h0[j]? := fun j hj => (g1 j (by omega)).trans (fr j hj)
  have hs0 := (g1 (s) (by omega)).trans hs0
  have hs1 := (g1 (s + 1) (by omega)).trans hs1
  have hs2 := (g1 (s + 2) (by omega)).trans hs2
  have hs3 := (g1 (s + 3) (by omega)).trans hs3
  have hs4 := (g1 (s + 4) (by omega)).trans hs4
  have hs5 := (g1 (s + 5) (by omega)).trans hs5
  have ht1 := (g1 (t + 1) (by omega)).trans ht1
  have ht2 := (g1 (t + 2) (by omega)).trans ht2
  have ht3 := (g1 (t + 3) (by omega)).trans ht3
  have ht4 := (g1 (t + 4) (by omega)).trans ht4
  have ht5 := (g1 (t + 5) (by omega)).trans ht5
  refine ex_of (fun _ _ => ev_aload_n (pc' := 49) dX3_take_48 rfl rfl) ?_
  refine ex_of (fun _ _ => ev_aload_n (pc' := 50) dX3_take_49 rfl rfl) ?_
  refine ex_of (fun _ _ => ev_getfield (pc' := 53) fX3_40 dX3_take_50 rfl hs0 rfl) ?_
  refine xpu (pc' := 56) (fs' := [.int (iI nu), .int (iI (U 0)), .int (iI (U 1)), .int (iI (U 2)), .int (iI (U 3)), .int (iI ea), .ref (t + 1), .ref (t + 2), .ref (t + 3), .int (iI (U 28)), .ref (t + 4), .ref (t + 5)]) (pX3_40 _) dX3_take_53 rfl hT rfl rfl (Nat.le_of_ble_eq_true rfl) rfl (fun h L1 hT g1 => ?_)
  have L := L1.trans L
  have fr : ∀ j, ¬ (t ≤ j ∧ j ≤ t + 5) → h[j]? = h0[j]? := fun j hj => (g1 j (by omega)).trans (fr j hj)
  have hs0 := (g1 (s) (by omega)).trans hs0
  have hs1 := (g1 (s + 1) (by omega)).trans hs1
  have hs2 := (g1 (s + 2) (by omega)).trans hs2
  have hs3 := (g1 (s + 3) (by omega)).trans hs3
  have hs4 := (g1 (s + 4) (by omega)).trans hs4
  have hs5 := (g1 (s + 5) (by omega)).trans hs5
  have ht1 := (g1 (t + 1) (by omega)).trans ht1
  have ht2 := (g1 (t + 2) (by omega)).trans ht2
  have ht3 := (g1 (t + 3) (by omega)).trans ht3
  have ht4 := (g1 (t + 4) (by omega)).trans ht4
  have ht5 := (g1 (t + 5) (by omega)).trans ht5
  refine ex_of (fun _ _ => ev_aload_n (pc' := 57) dX3_take_56 rfl rfl) ?_
  refine ex_of (fun _ _ => ev_getfield (pc' := 60) fX3_30 dX3_take_57 rfl hs0 rfl) ?_
  refine ex_of (fun _ _ => ev_iconst (pc' := 61) (iI (0)) dX3_take_60 rfl (by decide)) ?_
  refine ex_of (fun _ _ => ev_aload_n (pc' := 62) dX3_take_61 rfl rfl) ?_
  refine ex_of (fun _ _ => ev_getfield (pc' := 65) fX3_30 dX3_take_62 rfl hT rfl) ?_
  refine ex_of (fun _ _ => ev_iconst (pc' := 66) (iI (0)) dX3_take_65 rfl (by decide)) ?_
  refine ex_of (fun _ _ => ev_bipush (pc' := 68) (iI (6)) dX3_take_66 rfl (by decide)) ?_
  refine xcy (n := 6) (pc' := 71) acX3_65 dX3_take_68 rfl (by decide) (Nat.le_of_ble_eq_true rfl) hs1 ht1 (by decide) rfl (fun h L1 ht1 g1 => ?_)
  obtain ⟨D1, ht1, w1⟩ := ht1
  have L := L1.trans L
  have fr : ∀ j, ¬ (t ≤ j ∧ j ≤ t + 5) → h[j]? = h0[j]? := fun j hj => (g1 j (by omega)).trans (fr j hj)
  have hs0 := (g1 (s) (by omega)).trans hs0
  have hs1 := (g1 (s + 1) (by omega)).trans hs1
  have hs2 := (g1 (s + 2) (by omega)).trans hs2
  have hs3 := (g1 (s + 3) (by omega)).trans hs3
  have hs4 := (g1 (s + 4) (by omega)).trans hs4
  have hs5 := (g1 (s + 5) (by omega)).trans hs5
  have hT := (g1 (t) (by omega)).trans hT
  have ht2 := (g1 (t + 2) (by omega)).trans ht2
  have ht3 := (g1 (t + 3) (by omega)).trans ht3
  have ht4 := (g1 (t + 4) (by omega)).trans ht4
  have ht5 := (g1 (t + 5) (by omega)).trans ht5
  refine ex_of (fun _ _ => ev_aload_n (pc' := 72) dX3_take_71 rfl rfl) ?_
  refine ex_of (fun _ _ => ev_getfield (pc' := 75) fX3_34 dX3_take_72 rfl hs0 rfl) ?_
  refine ex_of (fun _ _ => ev_iconst (pc' := 76) (iI (0)) dX3_take_75 rfl (by decide)) ?_
  refine ex_of (fun _ _ => ev_aload_n (pc' := 77) dX3_take_76 rfl rfl) ?_
  refine ex_of (fun _ _ => ev_getfield (pc' := 80) fX3_34 dX3_take_77 rfl hT rfl) ?_
  refine ex_of (fun _ _ => ev_iconst (pc' := 81) (iI (0)) dX3_take_80 rfl (by decide)) ?_
  refine ex_of (fun _ _ => ev_bipush (pc' := 83) (iI (6)) dX3_take_81 rfl (by decide)) ?_
  refine xcy (n := 6) (pc' := 86) acX3_65 dX3_take_83 rfl (by decide) (Nat.le_of_ble_eq_true rfl) hs2 ht2 (by decide) rfl (fun h L1 ht2 g1 => ?_)
  obtain ⟨D2, ht2, w2⟩ := ht2
  have L := L1.trans L
  have fr : ∀ j, ¬ (t ≤ j ∧ j ≤ t + 5) → h[j]? = h0[j]? := fun j hj => (g1 j (by omega)).trans (fr j hj)
  have hs0 := (g1 (s) (by omega)).trans hs0
  have hs1 := (g1 (s + 1) (by omega)).trans hs1
  have hs2 := (g1 (s + 2) (by omega)).trans hs2
  have hs3 := (g1 (s + 3) (by omega)).trans hs3
  have hs4 := (g1 (s + 4) (by omega)).trans hs4
  have hs5 := (g1 (s + 5) (by omega)).trans hs5
  have hT := (g1 (t) (by omega)).trans hT
  have ht1 := (g1 (t + 1) (by omega)).trans ht1
  have ht3 := (g1 (t + 3) (by omega)).trans ht3
  have ht4 := (g1 (t + 4) (by omega)).trans ht4
  have ht5 := (g1 (t + 5) (by omega)).trans ht5
  refine ex_of (fun _ _ => ev_aload_n (pc' := 87) dX3_take_86 rfl rfl) ?_
  refine ex_of (fun _ _ => ev_getfield (pc' := 90) fX3_37 dX3_take_87 rfl hs0 rfl) ?_
  refine ex_of (fun _ _ => ev_iconst (pc' := 91) (iI (0)) dX3_take_90 rfl (by decide)) ?_
  refine ex_of (fun _ _ => ev_aload_n (pc' := 92) dX3_take_91 rfl rfl) ?_
  refine ex_of (fun _ _ => ev_getfield (pc' := 95) fX3_37 dX3_take_92 rfl hT rfl) ?_
  refine ex_of (fun _ _ => ev_iconst (pc' := 96) (iI (0)) dX3_take_95 rfl (by decide)) ?_
  refine ex_of (fun _ _ => ev_bipush (pc' := 98) (iI (6)) dX3_take_96 rfl (by decide)) ?_
  refine xcy (n := 6) (pc' := 101) acX3_65 dX3_take_98 rfl (by decide) (Nat.le_of_ble_eq_true rfl) hs3 ht3 (by decide) rfl (fun h L1 ht3 g1 => ?_)
  obtain ⟨D3, ht3, w3⟩ := ht3
  have L := L1.trans L
  have fr : ∀ j, ¬ (t ≤ j ∧ j ≤ t + 5) → h[j]? = h0[j]? := fun j hj => (g1 j (by omega)).trans (fr j hj)
  have hs0 := (g1 (s) (by omega)).trans hs0
  have hs1 := (g1 (s + 1) (by omega)).trans hs1
  have hs2 := (g1 (s + 2) (by omega)).trans hs2
  have hs3 := (g1 (s + 3) (by omega)).trans hs3
  have hs4 := (g1 (s + 4) (by omega)).trans hs4
  have hs5 := (g1 (s + 5) (by omega)).trans hs5
  have hT := (g1 (t) (by omega)).trans hT
  have ht1 := (g1 (t + 1) (by omega)).trans ht1
  have ht2 := (g1 (t + 2) (by omega)).trans ht2
  have ht4 := (g1 (t + 4) (by omega)).trans ht4
  have ht5 := (g1 (t + 5) (by omega)).trans ht5
  refine ex_of (fun _ _ => ev_aload_n (pc' := 102) dX3_take_101 rfl rfl) ?_
  refine ex_of (fun _ _ => ev_getfield (pc' := 105) fX3_43 dX3_take_102 rfl hs0 rfl) ?_
  refine ex_of (fun _ _ => ev_iconst (pc' := 106) (iI (0)) dX3_take_105 rfl (by decide)) ?_
  refine ex_of (fun _ _ => ev_aload_n (pc' := 107) dX3_take_106 rfl rfl) ?_
  refine ex_of (fun _ _ => ev_getfield (pc' := 110) fX3_43 dX3_take_107 rfl hT rfl) ?_
  refine ex_of (fun _ _ => ev_iconst (pc' := 111) (iI (0)) dX3_take_110 rfl (by decide)) ?_
  refine ex_of (fun _ _ => ev_bipush (pc' := 113) (iI (8)) dX3_take_111 rfl (by decide)) ?_
  refine xcy (n := 8) (pc' := 116) acX3_65 dX3_take_113 rfl (by decide) (Nat.le_of_ble_eq_true rfl) hs4 ht4 (by decide) rfl (fun h L1 ht4 g1 => ?_)
  obtain ⟨D4, ht4, w4⟩ := ht4
  have L := L1.trans L
  have fr : ∀ j, ¬ (t ≤ j ∧ j ≤ t + 5) → h[j]? = h0[j]? := fun j hj => (g1 j (by omega)).trans (fr j hj)
  have hs0 := (g1 (s) (by omega)).trans hs0
  have hs1 := (g1 (s + 1) (by omega)).trans hs1
  have hs2 := (g1 (s + 2) (by omega)).trans hs2
  have hs3 := (g1 (s + 3) (by omega)).trans hs3
  have hs4 := (g1 (s + 4) (by omega)).trans hs4
  have hs5 := (g1 (s + 5) (by omega)).trans hs5
  have hT := (g1 (t) (by omega)).trans hT
  have ht1 := (g1 (t + 1) (by omega)).trans ht1
  have ht2 := (g1 (t + 2) (by omega)).trans ht2
  have ht3 := (g1 (t + 3) (by omega)).trans ht3
  have ht5 := (g1 (t + 5) (by omega)).trans ht5
  refine ex_of (fun _ _ => ev_aload_n (pc' := 117) dX3_take_116 rfl rfl) ?_
  refine ex_of (fun _ _ => ev_getfield (pc' := 120) fX3_46 dX3_take_117 rfl hs0 rfl) ?_
  refine ex_of (fun _ _ => ev_iconst (pc' := 121) (iI (0)) dX3_take_120 rfl (by decide)) ?_
  refine ex_of (fun _ _ => ev_aload_n (pc' := 122) dX3_take_121 rfl rfl) ?_
  refine ex_of (fun _ _ => ev_getfield (pc' := 125) fX3_46 dX3_take_122 rfl hT rfl) ?_
  refine ex_of (fun _ _ => ev_iconst (pc' := 126) (iI (0)) dX3_take_125 rfl (by decide)) ?_
  refine ex_of (fun _ _ => ev_bipush (pc' := 128) (iI (8)) dX3_take_126 rfl (by decide)) ?_
  refine xcy (n := 8) (pc' := 131) acX3_65 dX3_take_128 rfl (by decide) (Nat.le_of_ble_eq_true rfl) hs5 ht5 (by decide) rfl (fun h L1 ht5 g1 => ?_)
  obtain ⟨D5, ht5, w5⟩ := ht5
  have L := L1.trans L
  have fr : ∀ j, ¬ (t ≤ j ∧ j ≤ t + 5) → h[j]? = h0[j]? := fun j hj => (g1 j (by omega)).trans (fr j hj)
  have hs0 := (g1 (s) (by omega)).trans hs0
  have hs1 := (g1 (s + 1) (by omega)).trans hs1
  have hs2 := (g1 (s + 2) (by omega)).trans hs2
  have hs3 := (g1 (s + 3) (by omega)).trans hs3
  have hs4 := (g1 (s + 4) (by omega)).trans hs4
  have hs5 := (g1 (s + 5) (by omega)).trans hs5
  have hT := (g1 (t) (by omega)).trans hT
  have ht1 := (g1 (t + 1) (by omega)).trans ht1
  have ht2 := (g1 (t + 2) (by omega)).trans ht2
  have ht3 := (g1 (t + 3) (by omega)).trans ht3
  have ht4 := (g1 (t + 4) (by omega)).trans ht4
  exact ex_end (ev_vret dX3_take_131) (⟨rfl, L, fr, ea, be, hT, ⟨_, ht1, fun p p1 p2 => (w1 p p1 p2).trans (e1 p p1 p2)⟩, ⟨_, ht2, fun p p1 p2 => (w2 p p1 p2).trans (e2 p p1 p2)⟩, ⟨_, ht3, fun p p1 p2 => (w3 p p1 p2).trans (e3 p p1 p2)⟩, ⟨_, ht4, fun p p1 p2 => (w4 p p1 p2).trans (e4 p p1 p2)⟩, ⟨_, ht5, fun p p1 p2 => (w5 p p1 p2).trans (e5 p p1 p2)⟩⟩)
theorem e4_takeWorld (hs : CW h0 a S Fa) (ht : CW h0 b S' Fb) (hab : a + 7 ≤ b ∨ b + 7 ≤ a) : Ex l 1 yX4_takeWorld.cls yX4_takeWorld.name cX4_takeWorld 2 none 0 [some (.ref b), some (.ref a)] [] h0 (fun v h2 => v = none ∧ h2.length = h0.length ∧ (∀ j, ¬ (b ≤ j ∧ j ≤ b + 5) → h2[j]? = h0[j]?) ∧ CW h2 b (upI S 1 (S' 1)) Fb) := by
  obtain ⟨hs0, ⟨f1, hs1, e1⟩, ⟨f2, hs2, e2⟩, ⟨f3, hs3, e3⟩, ⟨f4, hs4, e4⟩, ⟨f5, hs5, e5⟩, hs6⟩ := hs
  obtain ⟨hT, ⟨D1, ht1, -⟩, ⟨D2, ht2, -⟩, ⟨D3, ht3, -⟩, ⟨D4, ht4, -⟩, ⟨D5, ht5, -⟩, ht6⟩ := ht
  have L : h0.length = h0.length := rfl
  have fr : ∀ j, ¬ (b ≤ j ∧ j ≤ b + 5) → h0[j]? = h0[j]? := fun _ _ => rfl
  refine ex_of (fun _ _ => ev_aload_n (pc' := 1) dX4_takeWorld_0 rfl rfl) ?_
  refine ex_of (fun _ _ => ev_aload_n (pc' := 2) dX4_takeWorld_1 rfl rfl) ?_
  refine ex_of (fun _ _ => ev_getfield (pc' := 5) fX4_9 dX4_takeWorld_2 rfl hs0 rfl) ?_
  refine xpu (pc' := 8) (fs' := [.int (iI (S 0)), .int (iI (S' 1)), .int (iI (S' 2)), .ref (b + 1), .ref (b + 2), .ref (b + 3), .ref (b + 4), .ref (b + 5), .ref (b + 6)]) (pX4_9 _) dX4_takeWorld_5 rfl hT rfl rfl (Nat.le_of_ble_eq_true rfl) rfl (fun h L1 hT g1 => ?_)
  have L := L1.trans L
  have fr : ∀ j, ¬ (b ≤ j ∧ j ≤ b + 5) → h[j]? = h0[j]? := fun j hj => (g1 j (by omega)).trans (fr j hj)
  have hs0 := (g1 (a) (by omega)).trans hs0
  have hs1 := (g1 (a + 1) (by omega)).trans hs1
  have hs2 := (g1 (a + 2) (by omega)).trans hs2
  have hs3 := (g1 (a + 3) (by omega)).trans hs3
  have hs4 := (g1 (a + 4) (by omega)).trans hs4
  have hs5 := (g1 (a + 5) (by omega)).trans hs5
  have hs6 := (g1 (a + 6) (by omega)).trans hs6
  have ht1 := (g1 (b + 1) (by omega)).trans ht1
  have ht2 := (g1 (b + 2) (by omega)).trans ht2
  have ht3 := (g1 (b + 3) (by omega)).trans ht3
  have ht4 := (g1 (b + 4) (by omega)).trans ht4
  have ht5 := (g1 (b + 5) (by omega)).trans ht5
  have ht6 := (g1 (b + 6) (by omega)).trans ht6
  refine ex_of (fun _ _ => ev_aload_n (pc' := 9) dX4_takeWorld_8 rfl rfl) ?_
  refine ex_of (fun _ _ => ev_aload_n (pc' := 10) dX4_takeWorld_9 rfl rfl) ?_
  refine ex_of (fun _ _ => ev_getfield (pc' := 13) fX4_18 dX4_takeWorld_10 rfl hs0 rfl) ?_
  refine xpu (pc' := 16) (fs' := [.int (iI (S 0)), .int (iI (S' 1)), .int (iI (S 2)), .ref (b + 1), .ref (b + 2), .ref (b + 3), .ref (b + 4), .ref (b + 5), .ref (b + 6)]) (pX4_18 _) dX4_takeWorld_13 rfl hT rfl rfl (Nat.le_of_ble_eq_true rfl) rfl (fun h L1 hT g1 => ?_)
  have L := L1.trans L
  have fr : ∀ j, ¬ (b ≤ j ∧ j ≤ b + 5) → h[j]? = h0[j]? := fun j hj => (g1 j (by omega)).trans (fr j hj)
  have hs0 := (g1 (a) (by omega)).trans hs0
  have hs1 := (g1 (a + 1) (by omega)).trans hs1
  have hs2 := (g1 (a + 2) (by omega)).trans hs2
  have hs3 := (g1 (a + 3) (by omega)).trans hs3
  have hs4 := (g1 (a + 4) (by omega)).trans hs4
  have hs5 := (g1 (a + 5) (by omega)).trans hs5
  have hs6 := (g1 (a + 6) (by omega)).trans hs6
  have ht1 := (g1 (b + 1) (by omega)).trans ht1
  have ht2 := (g1 (b + 2) (by omega)).trans ht2
  have ht3 := (g1 (b + 3) (by omega)).trans ht3
  have ht4 := (g1 (b + 4) (by omega)).trans ht4
  have ht5 := (g1 (b + 5) (by omega)).trans ht5
  have ht6 := (g1 (b + 6) (by omega)).trans ht6
  refine ex_of (fun _ _ => ev_aload_n (pc' := 17) dX4_takeWorld_16 rfl rfl) ?_
  refine ex_of (fun _ _ => ev_getfield (pc' := 20) fX4_21 dX4_takeWorld_17 rfl hs0 rfl) ?_
  refine ex_of (fun _ _ => ev_iconst (pc' := 21) (iI (0)) dX4_takeWorld_20 rfl (by decide)) ?_
  refine ex_of (fun _ _ => ev_aload_n (pc' := 22) dX4_takeWorld_21 rfl rfl) ?_
  refine ex_of (fun _ _ => ev_getfield (pc' := 25) fX4_21 dX4_takeWorld_22 rfl hT rfl) ?_
  refine ex_of (fun _ _ => ev_iconst (pc' := 26) (iI (0)) dX4_takeWorld_25 rfl (by decide)) ?_
  refine ex_of (fun _ _ => ev_bipush (pc' := 28) (iI (10)) dX4_takeWorld_26 rfl (by decide)) ?_
  refine xcy (n := 10) (pc' := 31) acX4_109 dX4_takeWorld_28 rfl (by decide) (Nat.le_of_ble_eq_true rfl) hs1 ht1 (by decide) rfl (fun h L1 ht1 g1 => ?_)
  obtain ⟨D1, ht1, w1⟩ := ht1
  have L := L1.trans L
  have fr : ∀ j, ¬ (b ≤ j ∧ j ≤ b + 5) → h[j]? = h0[j]? := fun j hj => (g1 j (by omega)).trans (fr j hj)
  have hs0 := (g1 (a) (by omega)).trans hs0
  have hs1 := (g1 (a + 1) (by omega)).trans hs1
  have hs2 := (g1 (a + 2) (by omega)).trans hs2
  have hs3 := (g1 (a + 3) (by omega)).trans hs3
  have hs4 := (g1 (a + 4) (by omega)).trans hs4
  have hs5 := (g1 (a + 5) (by omega)).trans hs5
  have hs6 := (g1 (a + 6) (by omega)).trans hs6
  have hT := (g1 (b) (by omega)).trans hT
  have ht2 := (g1 (b + 2) (by omega)).trans ht2
  have ht3 := (g1 (b + 3) (by omega)).trans ht3
  have ht4 := (g1 (b + 4) (by omega)).trans ht4
  have ht5 := (g1 (b + 5) (by omega)).trans ht5
  have ht6 := (g1 (b + 6) (by omega)).trans ht6
  refine ex_of (fun _ _ => ev_aload_n (pc' := 32) dX4_takeWorld_31 rfl rfl) ?_
  refine ex_of (fun _ _ => ev_getfield (pc' := 35) fX4_25 dX4_takeWorld_32 rfl hs0 rfl) ?_
  refine ex_of (fun _ _ => ev_iconst (pc' := 36) (iI (0)) dX4_takeWorld_35 rfl (by decide)) ?_
  refine ex_of (fun _ _ => ev_aload_n (pc' := 37) dX4_takeWorld_36 rfl rfl) ?_
  refine ex_of (fun _ _ => ev_getfield (pc' := 40) fX4_25 dX4_takeWorld_37 rfl hT rfl) ?_
  refine ex_of (fun _ _ => ev_iconst (pc' := 41) (iI (0)) dX4_takeWorld_40 rfl (by decide)) ?_
  refine ex_of (fun _ _ => ev_bipush (pc' := 43) (iI (10)) dX4_takeWorld_41 rfl (by decide)) ?_
  refine xcy (n := 10) (pc' := 46) acX4_109 dX4_takeWorld_43 rfl (by decide) (Nat.le_of_ble_eq_true rfl) hs2 ht2 (by decide) rfl (fun h L1 ht2 g1 => ?_)
  obtain ⟨D2, ht2, w2⟩ := ht2
  have L := L1.trans L
  have fr : ∀ j, ¬ (b ≤ j ∧ j ≤ b + 5) → h[j]? = h0[j]? := fun j hj => (g1 j (by omega)).trans (fr j hj)
  have hs0 := (g1 (a) (by omega)).trans hs0
  have hs1 := (g1 (a + 1) (by omega)).trans hs1
  have hs2 := (g1 (a + 2) (by omega)).trans hs2
  have hs3 := (g1 (a + 3) (by omega)).trans hs3
  have hs4 := (g1 (a + 4) (by omega)).trans hs4
  have hs5 := (g1 (a + 5) (by omega)).trans hs5
  have hs6 := (g1 (a + 6) (by omega)).trans hs6
  have hT := (g1 (b) (by omega)).trans hT
  have ht1 := (g1 (b + 1) (by omega)).trans ht1
  have ht3 := (g1 (b + 3) (by omega)).trans ht3
  have ht4 := (g1 (b + 4) (by omega)).trans ht4
  have ht5 := (g1 (b + 5) (by omega)).trans ht5
  have ht6 := (g1 (b + 6) (by omega)).trans ht6
  refine ex_of (fun _ _ => ev_aload_n (pc' := 47) dX4_takeWorld_46 rfl rfl) ?_
  refine ex_of (fun _ _ => ev_getfield (pc' := 50) fX4_28 dX4_takeWorld_47 rfl hs0 rfl) ?_
  refine ex_of (fun _ _ => ev_iconst (pc' := 51) (iI (0)) dX4_takeWorld_50 rfl (by decide)) ?_
  refine ex_of (fun _ _ => ev_aload_n (pc' := 52) dX4_takeWorld_51 rfl rfl) ?_
  refine ex_of (fun _ _ => ev_getfield (pc' := 55) fX4_28 dX4_takeWorld_52 rfl hT rfl) ?_
  refine ex_of (fun _ _ => ev_iconst (pc' := 56) (iI (0)) dX4_takeWorld_55 rfl (by decide)) ?_
  refine ex_of (fun _ _ => ev_bipush (pc' := 58) (iI (10)) dX4_takeWorld_56 rfl (by decide)) ?_
  refine xcy (n := 10) (pc' := 61) acX4_109 dX4_takeWorld_58 rfl (by decide) (Nat.le_of_ble_eq_true rfl) hs3 ht3 (by decide) rfl (fun h L1 ht3 g1 => ?_)
  obtain ⟨D3, ht3, w3⟩ := ht3
  have L := L1.trans L
  have fr : ∀ j, ¬ (b ≤ j ∧ j ≤ b + 5) → h[j]? = h0[j]? := fun j hj => (g1 j (by omega)).trans (fr j hj)
  have hs0 := (g1 (a) (by omega)).trans hs0
  have hs1 := (g1 (a + 1) (by omega)).trans hs1
  have hs2 := (g1 (a + 2) (by omega)).trans hs2
  have hs3 := (g1 (a + 3) (by omega)).trans hs3
  have hs4 := (g1 (a + 4) (by omega)).trans hs4
  have hs5 := (g1 (a + 5) (by omega)).trans hs5
  have hs6 := (g1 (a + 6) (by omega)).trans hs6
  have hT := (g1 (b) (by omega)).trans hT
  have ht1 := (g1 (b + 1) (by omega)).trans ht1
  have ht2 := (g1 (b + 2) (by omega)).trans ht2
  have ht4 := (g1 (b + 4) (by omega)).trans ht4
  have ht5 := (g1 (b + 5) (by omega)).trans ht5
  have ht6 := (g1 (b + 6) (by omega)).trans ht6
  refine ex_of (fun _ _ => ev_aload_n (pc' := 62) dX4_takeWorld_61 rfl rfl) ?_
  refine ex_of (fun _ _ => ev_getfield (pc' := 65) fX4_31 dX4_takeWorld_62 rfl hs0 rfl) ?_
  refine ex_of (fun _ _ => ev_iconst (pc' := 66) (iI (0)) dX4_takeWorld_65 rfl (by decide)) ?_
  refine ex_of (fun _ _ => ev_aload_n (pc' := 67) dX4_takeWorld_66 rfl rfl) ?_
  refine ex_of (fun _ _ => ev_getfield (pc' := 70) fX4_31 dX4_takeWorld_67 rfl hT rfl) ?_
  refine ex_of (fun _ _ => ev_iconst (pc' := 71) (iI (0)) dX4_takeWorld_70 rfl (by decide)) ?_
  refine ex_of (fun _ _ => ev_bipush (pc' := 73) (iI (10)) dX4_takeWorld_71 rfl (by decide)) ?_
  refine xcy (n := 10) (pc' := 76) acX4_109 dX4_takeWorld_73 rfl (by decide) (Nat.le_of_ble_eq_true rfl) hs4 ht4 (by decide) rfl (fun h L1 ht4 g1 => ?_)
  obtain ⟨D4, ht4, w4⟩ := ht4
  have L := L1.trans L
  have fr : ∀ j, ¬ (b ≤ j ∧ j ≤ b + 5) → h[j]? = h0[j]? := fun j hj => (g1 j (by omega)).trans (fr j hj)
  have hs0 := (g1 (a) (by omega)).trans hs0
  have hs1 := (g1 (a + 1) (by omega)).trans hs1
  have hs2 := (g1 (a + 2) (by omega)).trans hs2
  have hs3 := (g1 (a + 3) (by omega)).trans hs3
  have hs4 := (g1 (a + 4) (by omega)).trans hs4
  have hs5 := (g1 (a + 5) (by omega)).trans hs5
  have hs6 := (g1 (a + 6) (by omega)).trans hs6
  have hT := (g1 (b) (by omega)).trans hT
  have ht1 := (g1 (b + 1) (by omega)).trans ht1
  have ht2 := (g1 (b + 2) (by omega)).trans ht2
  have ht3 := (g1 (b + 3) (by omega)).trans ht3
  have ht5 := (g1 (b + 5) (by omega)).trans ht5
  have ht6 := (g1 (b + 6) (by omega)).trans ht6
  refine ex_of (fun _ _ => ev_aload_n (pc' := 77) dX4_takeWorld_76 rfl rfl) ?_
  refine ex_of (fun _ _ => ev_getfield (pc' := 80) fX4_34 dX4_takeWorld_77 rfl hs0 rfl) ?_
  refine ex_of (fun _ _ => ev_iconst (pc' := 81) (iI (0)) dX4_takeWorld_80 rfl (by decide)) ?_
  refine ex_of (fun _ _ => ev_aload_n (pc' := 82) dX4_takeWorld_81 rfl rfl) ?_
  refine ex_of (fun _ _ => ev_getfield (pc' := 85) fX4_34 dX4_takeWorld_82 rfl hT rfl) ?_
  refine ex_of (fun _ _ => ev_iconst (pc' := 86) (iI (0)) dX4_takeWorld_85 rfl (by decide)) ?_
  refine ex_of (fun _ _ => ev_bipush (pc' := 88) (iI (100)) dX4_takeWorld_86 rfl (by decide)) ?_
  refine xcy (n := 100) (pc' := 91) acX4_109 dX4_takeWorld_88 rfl (by decide) (Nat.le_of_ble_eq_true rfl) hs5 ht5 (by decide) rfl (fun h L1 ht5 g1 => ?_)
  obtain ⟨D5, ht5, w5⟩ := ht5
  have L := L1.trans L
  have fr : ∀ j, ¬ (b ≤ j ∧ j ≤ b + 5) → h[j]? = h0[j]? := fun j hj => (g1 j (by omega)).trans (fr j hj)
  have hs0 := (g1 (a) (by omega)).trans hs0
  have hs1 := (g1 (a + 1) (by omega)).trans hs1
  have hs2 := (g1 (a + 2) (by omega)).trans hs2
  have hs3 := (g1 (a + 3) (by omega)).trans hs3
  have hs4 := (g1 (a + 4) (by omega)).trans hs4
  have hs5 := (g1 (a + 5) (by omega)).trans hs5
  have hs6 := (g1 (a + 6) (by omega)).trans hs6
  have hT := (g1 (b) (by omega)).trans hT
  have ht1 := (g1 (b + 1) (by omega)).trans ht1
  have ht2 := (g1 (b + 2) (by omega)).trans ht2
  have ht3 := (g1 (b + 3) (by omega)).trans ht3
  have ht4 := (g1 (b + 4) (by omega)).trans ht4
  have ht6 := (g1 (b + 6) (by omega)).trans ht6
  exact ex_end (ev_vret dX4_takeWorld_91) (by
    refine ⟨rfl, L, fr, ?_, ⟨_, ht1, fun p p1 p2 => ?_⟩, ⟨_, ht2, fun p p1 p2 => ?_⟩, ⟨_, ht3, fun p p1 p2 => ?_⟩, ⟨_, ht4, fun p p1 p2 => ?_⟩, ⟨_, ht5, fun p p1 p2 => ?_⟩, ht6⟩
    · rw [upI_s, upI_n (by decide), upI_n (by decide)]; exact hT
    · exact ((w1 p p1 p2).trans (e1 p p1 p2)).trans (upI_n (by omega)).symm
    · exact ((w2 p p1 p2).trans (e2 p p1 p2)).trans (upI_n (by omega)).symm
    · exact ((w3 p p1 p2).trans (e3 p p1 p2)).trans (upI_n (by omega)).symm
    · exact ((w4 p p1 p2).trans (e4 p p1 p2)).trans (upI_n (by omega)).symm
    · exact ((w5 p p1 p2).trans (e5 p p1 p2)).trans (upI_n (by omega)).symm)
/-- what stands in the heap when the first i travellers have been taken over: h0 was before, b the world that takes, G its crowd -/
def TI (h0 : ev_H) (b : Nat) (S : Int → Int) (Fb : Nat → Option Nat) (an : Int) (i : Nat) (h : ev_H) (G : Nat → Option Nat) : Prop :=
  (h0.length ≤ h.length ∧ h.length ≤ h0.length + 6 * i ∧ (h.length - 47) % 6 = 0) ∧
  (∀ j, j < h0.length → j ≠ b + 6 → (an = 0 → ∀ k t, k < 8 → Fb k = some t → ¬ (t ≤ j ∧ j ≤ t + 5)) → h[j]? = h0[j]?) ∧
  h[b + 6]? = some (cRf 4 8 G) ∧
  (∀ k : Nat, k < i → ∃ t, G k = some t ∧ CT h t (win S k) k ∧ TG h t ∧ (h0.length ≤ t ∨ (an = 0 ∧ Fb k = some t))) ∧
  (∀ k : Nat, i ≤ k → G k = Fb k) ∧
  (an = 0 → ∀ k t : Nat, i ≤ k → k < 8 → Fb k = some t → ∀ j, t ≤ j → j ≤ t + 5 → h[j]? = h0[j]?) ∧
  (∀ k k' t : Nat, k < i → k' < i → G k = some t → G k' = some t → k = k')
/-- the same in the middle of a round: the one that takes stands at t -/
def TH (h0 : ev_H) (b : Nat) (S : Int → Int) (Fb : Nat → Option Nat) (an : Int) (i t : Nat) (h : ev_H) (G : Nat → Option Nat) : Prop :=
  (h0.length ≤ h.length ∧ h.length ≤ h0.length + 6 * (i + 1) ∧ (h.length - 47) % 6 = 0) ∧
  (∀ j, j < h0.length → j ≠ b + 6 → (an = 0 → ∀ k t, k < 8 → Fb k = some t → ¬ (t ≤ j ∧ j ≤ t + 5)) → h[j]? = h0[j]?) ∧
  h[b + 6]? = some (cRf 4 8 G) ∧
  (∀ k : Nat, k < i → ∃ t, G k = some t ∧ CT h t (win S k) k ∧ TG h t ∧ (h0.length ≤ t ∨ (an = 0 ∧ Fb k = some t))) ∧
  (∀ k : Nat, i < k → G k = Fb k) ∧
  (an = 0 → ∀ k t : Nat, i < k → k < 8 → Fb k = some t → ∀ j, t ≤ j → j ≤ t + 5 → h[j]? = h0[j]?) ∧
  (∀ k k' t : Nat, k ≤ i → k' ≤ i → G k = some t → G k' = some t → k = k') ∧
  (G i = some t ∧ (∃ U nu, CT h t U nu) ∧ TG h t ∧ (h0.length ≤ t ∨ (an = 0 ∧ Fb i = some t)))
/-- those that take: none of them among those taken from -/
def TB (h0 : ev_H) (Fb : Nat → Option Nat) (an : Int) : Prop := an = 0 → (∀ k t : Nat, k < 8 → Fb k = some t → TG h0 t ∧ ∃ U nu, CT h0 t U nu) ∧ ∀ i j t : Nat, i < 8 → j < 8 → Fb i = some t → Fb j = some t → i = j
def TA (h0 : ev_H) (S : Int → Int) (Fa Fb : Nat → Option Nat) (an : Int) (n : Nat) : Prop := ∀ k : Nat, k < n → ∃ s, Fa k = some s ∧ CT h0 s (win S k) k ∧ TG h0 s ∧ (an = 0 → ∀ j : Nat, j < 8 → Fb j ≠ some s)
theorem TI.src {an : Int} {i n : Nat} {G : Nat → Option Nat} (x : TI h0 b S Fb an i h G) (hb : b ≤ 8) (hB : TB h0 Fb an) (hA : TA h0 S Fa Fb an n) (hi : i < n) : ∃ s, Fa i = some s ∧ CT h s (win S i) i ∧ TG h0 s := by
  obtain ⟨s, a1, a2, a3, a4⟩ := hA i hi
  refine ⟨s, a1, a2.eq (fun j j1 j2 => x.2.1 j (by have := a3.2.2; omega) (by have := a3.1; omega) (fun z k t k8 kt => ?_)), a3⟩
  exact a3.ne ((hB z).1 k t k8 kt).1 (fun e => a4 z k k8 (by rw [e]; exact kt)) j1 j2
theorem TH.src {an : Int} {i n : Nat} {G : Nat → Option Nat} (x : TH h0 b S Fb an i t h G) (hb : b ≤ 8) (hB : TB h0 Fb an) (hA : TA h0 S Fa Fb an n) (hi : i < n) (hn : n ≤ 8) : ∃ s, Fa i = some s ∧ CT h s (win S i) i ∧ TG h0 s ∧ (s + 6 ≤ t ∨ t + 6 ≤ s) := by
  obtain ⟨s, a1, a2, a3, a4⟩ := hA i hi
  have ap : s ≠ t := by
    intro e
    rcases x.2.2.2.2.2.2.2.2.2.2 with q | ⟨z, q⟩
    · have := a3.2.2; omega
    · exact a4 z i (by omega) (by rw [e]; exact q)
  refine ⟨s, a1, a2.eq (fun j j1 j2 => x.2.1 j (by have := a3.2.2; omega) (by have := a3.1; omega) (fun z k t k8 kt => ?_)), a3, ?_⟩
  · exact a3.ne ((hB z).1 k t k8 kt).1 (fun e => a4 z k k8 (by rw [e]; exact kt)) j1 j2
  · have tg := x.2.2.2.2.2.2.2.2.2.1
    have := a3.2.1; have := a3.1; have := tg.1; have := tg.2.1
    omega
theorem TH.end {h2 : ev_H} {an : Int} {i : Nat} {G : Nat → Option Nat} (x : TH h0 b S Fb an i t h G) (hb : b ≤ 8) (hB : TB h0 Fb an) (hi : i < 8) (L : h2.length = h.length) (e : ∀ j, ¬ (t ≤ j ∧ j ≤ t + 5) → h2[j]? = h[j]?) (hc : CT h2 t (win S i) i) : TI h0 b S Fb an (i + 1) h2 G := by
  obtain ⟨⟨x1, x2, x3⟩, y, z, d, ee, f, g, gi, -, tg, hor⟩ := x
  have t47 := tg.1
  refine ⟨⟨by omega, by omega, by omega⟩, fun j j1 j2 j3 => (e j ?_).trans (y j j1 j2 j3), (e _ (by omega)).trans z, fun k hk => ?_, fun k hk => ee k (by omega), fun a0 k s k1 k2 k3 j j1 j2 => (e j ?_).trans (f a0 k s (by omega) k2 k3 j j1 j2), fun k k' s k1 k2 => g k k' s (by omega) (by omega)⟩
  · rcases hor with q | ⟨q1, q2⟩
    · omega
    · exact j3 q1 i t hi q2
  · by_cases q : k = i
    · subst q
      exact ⟨t, gi, hc, tg.mo (by omega), hor⟩
    · obtain ⟨s, s1, s2, s3, s4⟩ := d k (by omega)
      have n : s ≠ t := fun z => q (g k i t (by omega) (by omega) (by rw [← z]; exact s1) gi)
      exact ⟨s, s1, s2.eq (fun j j1 j2 => e j (s3.ne tg n j1 j2)), s3.mo (by omega), s4⟩
  · have sg := ((hB a0).1 k s k2 k3).1
    rcases hor with q | ⟨q1, q2⟩
    · have := sg.2.2; omega
    · have n : s ≠ t := fun z => by
        have := (hB a0).2 k i t k2 hi (by rw [← z]; exact k3) q2
        omega
      have sg2 : TG h s := sg.mo (by omega)
      exact sg2.ne tg n j1 j2
/-- one that is here takes -/
theorem TI.old {i : Nat} {G : Nat → Option Nat} (x : TI h0 b S Fb 0 i h G) (hB : TB h0 Fb 0) (hi : i < 8) (ht : Fb i = some t) : TH h0 b S Fb 0 i t h G := by
  obtain ⟨⟨x1, x2, x3⟩, y, z, d, ee, f, g⟩ := x
  obtain ⟨tg, U, nu, hc⟩ := (hB rfl).1 i t hi ht
  have gi : G i = some t := (ee i (by omega)).trans ht
  have nk : ∀ k, k < i → G k ≠ some t := by
    intro k hk q
    obtain ⟨s, s1, -, -, s4⟩ := d k hk
    rw [s1] at q
    injection q with q
    subst q
    rcases s4 with s4 | ⟨-, s4⟩
    · have := tg.2.2; omega
    · have := (hB rfl).2 k i s (by omega) hi s4 ht; omega
  refine ⟨⟨x1, by omega, x3⟩, y, z, d, fun k hk => ee k (by omega), fun a0 k s k1 k2 k3 => f a0 k s (by omega) k2 k3, fun k k' s k1 k2 p1 p2 => ?_, gi, ⟨U, nu, hc.eq (fun j j1 j2 => f rfl i t (by omega) hi ht j j1 j2)⟩, tg.mo (by omega), Or.inr ⟨rfl, ht⟩⟩
  by_cases q1 : k = i
  · by_cases q2 : k' = i
    · omega
    · rw [q1, gi] at p1
      rw [← p1] at p2
      exact absurd p2 (nk k' (by omega))
  · by_cases q2 : k' = i
    · rw [q2, gi] at p2
      rw [← p2] at p1
      exact absurd p1 (nk k (by omega))
    · exact g k k' s (by omega) (by omega) p1 p2
/-- a new one takes -/
theorem TI.neu {h2 : ev_H} {an : Int} {i : Nat} {G : Nat → Option Nat} (x : TI h0 b S Fb an i h G) (hb : b ≤ 8) (h47 : 47 ≤ h0.length) (hB : TB h0 Fb an) (hi : i < 8) (L : h2.length = h.length + 6) (e : ∀ j, j < h.length → j ≠ b + 6 → h2[j]? = h[j]?) (ec : h2[b + 6]? = some (cRf 4 8 (va_up G i (some h.length)))) (hc : ∃ U nu, CT h2 h.length U nu) : TH h0 b S Fb an i h.length h2 (va_up G i (some h.length)) := by
  obtain ⟨⟨x1, x2, x3⟩, y, z, d, ee, f, g⟩ := x
  have gi : va_up G i (some h.length) i = some h.length := vu_s _ _ _
  have gn : ∀ k, k ≠ i → va_up G i (some h.length) k = G k := fun k hk => vu_n hk
  have nk : ∀ k, k < i → G k ≠ some h.length := by
    intro k hk q
    obtain ⟨s, s1, -, s3, -⟩ := d k hk
    rw [s1] at q
    injection q with q
    have := s3.2.2
    omega
  refine ⟨⟨by omega, by omega, by omega⟩, fun j j1 j2 j3 => (e j (by omega) j2).trans (y j j1 j2 j3), ec, fun k hk => ?_, fun k hk => (gn k (by omega)).trans (ee k (by omega)), fun a0 k s k1 k2 k3 j j1 j2 => (e j ?_ ?_).trans (f a0 k s (by omega) k2 k3 j j1 j2), fun k k' s k1 k2 p1 p2 => ?_, gi, hc, ⟨by omega, x3, by omega⟩, Or.inl x1⟩
  · obtain ⟨s, s1, s2, s3, s4⟩ := d k hk
    exact ⟨s, (gn k (by omega)).trans s1, s2.eq (fun j j1 j2 => e j (by have := s3.2.2; omega) (by have := s3.1; omega)), s3.mo (by omega), s4⟩
  · have := ((hB a0).1 k s k2 k3).1.2.2; omega
  · have := ((hB a0).1 k s k2 k3).1.1; omega
  · by_cases q1 : k = i
    · by_cases q2 : k' = i
      · omega
      · rw [q1, gi] at p1
        rw [gn k' q2, ← p1] at p2
        exact absurd p2 (nk k' (by omega))
    · by_cases q2 : k' = i
      · rw [q2, gi] at p2
        rw [gn k q1, ← p2] at p1
        exact absurd p1 (nk k (by omega))
      · rw [gn k q1] at p1
        rw [gn k' q2] at p2
        exact g k k' s (by omega) (by omega) p1 p2
theorem e4_ttE {an pa na la pb lb : Int} {n : Nat} {i : Nat} {G : Nat → Option Nat} {Post : Option Value → ev_H → Prop} (hab : (a = 1 ∧ b = 8) ∨ (a = 8 ∧ b = 1)) (h47 : 47 ≤ h0.length) (hWa : h0[a]? = some (cWo pa na la (a + 1) (a + 2) (a + 3) (a + 4) (a + 5) (a + 6))) (hWb : h0[b]? = some (cWo pb (n : Int) lb (b + 1) (b + 2) (b + 3) (b + 4) (b + 5) (b + 6))) (hFa : h0[a + 6]? = some (cRf 4 8 Fa)) (hn : n ≤ 8) (hB : TB h0 Fb an) (hA : TA h0 S Fa Fb an n) (han : an = 0 ∨ an = 1) (hi : i < n) (x : TH h0 b S Fb an i t h G) (hs : Fa i = some s) (kk : ∀ h2 a4 a5, ev_c1 a4 = true → ev_c1 a5 = true → TI h0 b S Fb an (i + 1) h2 G → Ex l 2 yX4_takeTravellers.cls yX4_takeTravellers.name cX4_takeTravellers 6 none 10 [some (.ref b), some (.ref a), some (.int (iI an)), some (.int (iI ((i + 1 : Nat) : Int))), a4, a5] [] h2 Post) : Ex l 2 yX4_takeTravellers.cls yX4_takeTravellers.name cX4_takeTravellers 6 none 60 [some (.ref b), some (.ref a), some (.int (iI an)), some (.int (iI (i : Int))), some (.ref s), some (.ref t)] [] h Post := by
  obtain ⟨s', b1, b2, b3, b4⟩ := x.src (by omega) hB hA hi hn
  rw [hs] at b1
  injection b1 with b1
  subst b1
  obtain ⟨U, nu, hct⟩ := x.2.2.2.2.2.2.2.2.1
  obtain ⟨ea, hT⟩ := hct.ob
  refine ex_of (fun _ _ => ev_aload (pc' := 62) dX4_takeTravellers_60 rfl rfl) ?_
  refine ex_of (fun _ _ => ev_ifnull (pc' := 65) dX4_takeTravellers_62 rfl) ?_
  refine ex_of (fun _ _ => ev_aload (pc' := 67) dX4_takeTravellers_65 rfl rfl) ?_
  refine ex_of (fun _ _ => ev_aload (pc' := 69) dX4_takeTravellers_67 rfl rfl) ?_
  have hO := hT
  obtain ⟨w1, h1, E1, rfl, L9, g9, hc9⟩ := e3_take (l := l) b2 hct b4
  refine ex_of (fun _ _ => ev_callV1v (pc' := 72) kX4_116 mX3_take dX4_takeTravellers_69 rfl rfl (Nat.le_of_ble_eq_true rfl) (Nat.le_of_ble_eq_true rfl) (by decide) rfl hO E1) ?_
  have y := x.end (by omega) hB (by omega) L9 g9 hc9
  refine ex_of (fun _ _ => ev_iincI_3 (pc' := 75) dX4_takeTravellers_72 rfl (by decide) rfl) ?_
  refine ex_of (fun _ _ => ev_goto (tgt := 10) dX4_takeTravellers_75 (by decide)) ?_
  exact kk _ _ _ rfl rfl y
theorem e4_ttL {an pa na la pb lb : Int} {n : Nat} (hab : (a = 1 ∧ b = 8) ∨ (a = 8 ∧ b = 1)) (h47 : 47 ≤ h0.length) (hWa : h0[a]? = some (cWo pa na la (a + 1) (a + 2) (a + 3) (a + 4) (a + 5) (a + 6))) (hWb : h0[b]? = some (cWo pb (n : Int) lb (b + 1) (b + 2) (b + 3) (b + 4) (b + 5) (b + 6))) (hFa : h0[a + 6]? = some (cRf 4 8 Fa)) (hn : n ≤ 8) (hB : TB h0 Fb an) (hA : TA h0 S Fa Fb an n) (han : an = 0 ∨ an = 1) : ∀ (c i : Nat) (h : ev_H) (G : Nat → Option Nat) (a4 a5 : Option Value), ev_c1 a4 = true → ev_c1 a5 = true → i + c = n → TI h0 b S Fb an i h G → Ex l 2 yX4_takeTravellers.cls yX4_takeTravellers.name cX4_takeTravellers 6 none 10 [some (.ref b), some (.ref a), some (.int (iI an)), some (.int (iI (i : Int))), a4, a5] [] h (fun v h2 => v = none ∧ ∃ G, TI h0 b S Fb an n h2 G) := by
  intro c
  induction c with
  | zero =>
    intro i h G a4 a5 c4 c5 hc x
    have ho : ∀ k, k < 15 → k ≠ b + 6 → h[k]? = h0[k]? := fun k k1 k2 => x.2.1 k (by omega) k2 (fun a0 q t q8 qt => by have := ((hB a0).1 q t q8 qt).1.1; omega)
    have hW := (ho b (by omega) (by omega)).trans hWb
    have : i = n := by omega
    subst this
    refine ex_of (fun _ _ => ev_iload_n (pc' := 11) dX4_takeTravellers_10 rfl rfl) ?_
    refine ex_of (fun _ _ => ev_aload_n (pc' := 12) dX4_takeTravellers_11 rfl rfl) ?_
    refine ex_of (fun _ _ => ev_getfield (pc' := 15) fX4_15 dX4_takeTravellers_12 rfl hW rfl) ?_
    refine ex_icmpI_ge (pc' := 18) (tgt := 78) dX4_takeTravellers_15 (by decide) rfl (by omega) (by omega) (fun c15 => ?_) (fun c15 => ?_)
    · exact ex_end (ev_vret dX4_takeTravellers_78) (⟨rfl, G, x⟩)
    · omega
  | succ c ih =>
    intro i h G a4 a5 c4 c5 hc x
    have ho : ∀ k, k < 15 → k ≠ b + 6 → h[k]? = h0[k]? := fun k k1 k2 => x.2.1 k (by omega) k2 (fun a0 q t q8 qt => by have := ((hB a0).1 q t q8 qt).1.1; omega)
    have hW := (ho b (by omega) (by omega)).trans hWb
    have hV := (ho a (by omega) (by omega)).trans hWa
    have hFa' := (ho (a + 6) (by omega) (by omega)).trans hFa
    have hG := x.2.2.1
    have hi : i < n := by omega
    have ek : (iI (i : Int)).toNatClampNeg = i := by have := iI_cl (e := (i : Int)) (by omega); omega
    obtain ⟨s, s1, s2, s3⟩ := x.src (by omega) hB hA hi
    have gi : G i = Fb i := x.2.2.2.2.1 i (by omega)
    have kk : ∀ G' h2 a4 a5, ev_c1 a4 = true → ev_c1 a5 = true → TI h0 b S Fb an (i + 1) h2 G' → Ex l 2 yX4_takeTravellers.cls yX4_takeTravellers.name cX4_takeTravellers 6 none 10 [some (.ref b), some (.ref a), some (.int (iI an)), some (.int (iI ((i + 1 : Nat) : Int))), a4, a5] [] h2 (fun v h2 => v = none ∧ ∃ G, TI h0 b S Fb an n h2 G) := fun G' h2 a4 a5 c4 c5 y => ih (i + 1) h2 G' a4 a5 c4 c5 (by omega) y
    have lx := x.1
    cases hm : Fb i with
    | none =>
      refine ex_of (fun _ _ => ev_iload_n (pc' := 11) dX4_takeTravellers_10 rfl rfl) ?_
      refine ex_of (fun _ _ => ev_aload_n (pc' := 12) dX4_takeTravellers_11 rfl rfl) ?_
      refine ex_of (fun _ _ => ev_getfield (pc' := 15) fX4_15 dX4_takeTravellers_12 rfl hW rfl) ?_
      refine ex_icmpI_ge (pc' := 18) (tgt := 78) dX4_takeTravellers_15 (by decide) rfl (by omega) (by omega) (fun c15 => ?_) (fun c15 => ?_)
      · omega
      · refine ex_of (fun _ _ => ev_aload_n (pc' := 19) dX4_takeTravellers_18 rfl rfl) ?_
        refine ex_of (fun _ _ => ev_getfield (pc' := 22) fX4_39 dX4_takeTravellers_19 rfl hV rfl) ?_
        refine ex_of (fun _ _ => ev_iload_n (pc' := 23) dX4_takeTravellers_22 rfl rfl) ?_
        refine ex_of (fun _ _ => ev_aaload (pc' := 24) (Or.inr rfl) dX4_takeTravellers_23 rfl hFa' (iI_in (by omega) (by decide))) ?_
        rw [ek, s1]
        refine ex_of (fun _ _ => ev_astore_4 (pc' := 26) dX4_takeTravellers_24 rfl (by decide) rfl) ?_
        refine ex_of (fun _ _ => ev_aload_n (pc' := 27) dX4_takeTravellers_26 rfl rfl) ?_
        refine ex_of (fun _ _ => ev_getfield (pc' := 30) fX4_39 dX4_takeTravellers_27 rfl hW rfl) ?_
        refine ex_of (fun _ _ => ev_iload_n (pc' := 31) dX4_takeTravellers_30 rfl rfl) ?_
        refine ex_of (fun _ _ => ev_aaload (pc' := 32) (Or.inr rfl) dX4_takeTravellers_31 rfl hG (iI_in (by omega) (by decide))) ?_
        rw [ek, gi, hm]
        refine ex_of (fun _ _ => ev_astore_5N (pc' := 34) dX4_takeTravellers_32 rfl (by decide) rfl) ?_
        refine ex_of (fun _ _ => ev_iload_n (pc' := 35) dX4_takeTravellers_34 rfl rfl) ?_
        refine ex_ifI_ne (pc' := 38) (tgt := 43) dX4_takeTravellers_35 (by decide) rfl (by omega) (fun c35 => ?_) (fun c35 => ?_)
        · refine ex_of (fun _ _ => ev_new (pc' := 46) nwX4_37 dX4_takeTravellers_43 rfl) ?_
          refine ex_of (fun _ _ => ev_dup (pc' := 47) dX4_takeTravellers_46 rfl rfl) ?_
          refine ex_of (fun _ _ => ev_callI0v (pc' := 50) kX4_115 mX3_init dX4_takeTravellers_47 rfl rfl (Nat.le_of_ble_eq_true rfl) (Nat.le_of_ble_eq_true rfl) (by decide) (e3_init (g := h))) ?_
          refine ex_of (fun _ _ => ev_astore_5 (pc' := 52) dX4_takeTravellers_50 rfl (by decide) rfl) ?_
          refine ex_of (fun _ _ => ev_aload_n (pc' := 53) dX4_takeTravellers_52 rfl rfl) ?_
          refine ex_of (fun _ _ => ev_getfield (pc' := 56) fX4_39 dX4_takeTravellers_53 rfl ((gp_j (show b < h.length by omega)).trans hW) rfl) ?_
          refine ex_of (fun _ _ => ev_iload_n (pc' := 57) dX4_takeTravellers_56 rfl rfl) ?_
          refine ex_of (fun _ _ => ev_aload (pc' := 59) dX4_takeTravellers_57 rfl rfl) ?_
          refine ex_of (fun _ _ => ev_aastore (pc' := 60) (Or.inr ⟨rfl, rfl⟩) dX4_takeTravellers_59 rfl ((gp_j (show b + 6 < h.length by omega)).trans hG) gp_get (iI_in (by omega) (by decide))) ?_
          rw [ek]
          have L9 : ((h ++ [cTr 0 0 0 0 0 0 0 (h.length + 1) (h.length + 2) (h.length + 3) (h.length + 4) (h.length + 5), mA 6 (fun _ => 0), mA 6 (fun _ => 0), mA 6 (fun _ => 0), mA 8 (fun _ => 0), mA 8 (fun _ => 0)]).set (b + 6) (cRf 4 8 (va_up G i (some h.length)))).length = h.length + 6 := by rw [List.length_set, List.length_append]; rfl
          have up : ∀ q, ((h ++ [cTr 0 0 0 0 0 0 0 (h.length + 1) (h.length + 2) (h.length + 3) (h.length + 4) (h.length + 5), mA 6 (fun _ => 0), mA 6 (fun _ => 0), mA 6 (fun _ => 0), mA 8 (fun _ => 0), mA 8 (fun _ => 0)]).set (b + 6) (cRf 4 8 (va_up G i (some h.length))))[h.length + q]? = (cTr 0 0 0 0 0 0 0 (h.length + 1) (h.length + 2) (h.length + 3) (h.length + 4) (h.length + 5) :: [mA 6 (fun _ => 0), mA 6 (fun _ => 0), mA 6 (fun _ => 0), mA 8 (fun _ => 0), mA 8 (fun _ => 0)])[q]? := fun q => (set_ne (by omega)).trans (gp_i q)
          have hc9 : ∃ U nu, CT ((h ++ [cTr 0 0 0 0 0 0 0 (h.length + 1) (h.length + 2) (h.length + 3) (h.length + 4) (h.length + 5), mA 6 (fun _ => 0), mA 6 (fun _ => 0), mA 6 (fun _ => 0), mA 8 (fun _ => 0), mA 8 (fun _ => 0)]).set (b + 6) (cRf 4 8 (va_up G i (some h.length)))) h.length U nu := ⟨fun _ => 0, 0, 0, ⟨by decide, fun q q1 q2 => bit0 q⟩, up 0, ⟨_, up 1, fun _ _ _ => rfl⟩, ⟨_, up 2, fun _ _ _ => rfl⟩, ⟨_, up 3, fun _ _ _ => rfl⟩, ⟨_, up 4, fun _ _ _ => rfl⟩, ⟨_, up 5, fun _ _ _ => rfl⟩⟩
          have y := x.neu (by omega) h47 hB (by omega) L9 (fun j j1 j2 => (set_ne j2).trans (gp_j j1)) (ev_gs ((gp_j (show b + 6 < h.length by omega)).trans hG)) hc9
          exact e4_ttE hab h47 hWa hWb hFa hn hB hA han hi y s1 (fun h2 a4 a5 c4 c5 z => kk _ h2 a4 a5 c4 c5 z)
        · refine ex_of (fun _ _ => ev_aloadN (pc' := 40) dX4_takeTravellers_38 rfl rfl) ?_
          refine ex_of (fun _ _ => ev_ifnonnullN (pc' := 43) dX4_takeTravellers_40 rfl) ?_
          refine ex_of (fun _ _ => ev_new (pc' := 46) nwX4_37 dX4_takeTravellers_43 rfl) ?_
          refine ex_of (fun _ _ => ev_dup (pc' := 47) dX4_takeTravellers_46 rfl rfl) ?_
          refine ex_of (fun _ _ => ev_callI0v (pc' := 50) kX4_115 mX3_init dX4_takeTravellers_47 rfl rfl (Nat.le_of_ble_eq_true rfl) (Nat.le_of_ble_eq_true rfl) (by decide) (e3_init (g := h))) ?_
          refine ex_of (fun _ _ => ev_astore_5 (pc' := 52) dX4_takeTravellers_50 rfl (by decide) rfl) ?_
          refine ex_of (fun _ _ => ev_aload_n (pc' := 53) dX4_takeTravellers_52 rfl rfl) ?_
          refine ex_of (fun _ _ => ev_getfield (pc' := 56) fX4_39 dX4_takeTravellers_53 rfl ((gp_j (show b < h.length by omega)).trans hW) rfl) ?_
          refine ex_of (fun _ _ => ev_iload_n (pc' := 57) dX4_takeTravellers_56 rfl rfl) ?_
          refine ex_of (fun _ _ => ev_aload (pc' := 59) dX4_takeTravellers_57 rfl rfl) ?_
          refine ex_of (fun _ _ => ev_aastore (pc' := 60) (Or.inr ⟨rfl, rfl⟩) dX4_takeTravellers_59 rfl ((gp_j (show b + 6 < h.length by omega)).trans hG) gp_get (iI_in (by omega) (by decide))) ?_
          rw [ek]
          have L9 : ((h ++ [cTr 0 0 0 0 0 0 0 (h.length + 1) (h.length + 2) (h.length + 3) (h.length + 4) (h.length + 5), mA 6 (fun _ => 0), mA 6 (fun _ => 0), mA 6 (fun _ => 0), mA 8 (fun _ => 0), mA 8 (fun _ => 0)]).set (b + 6) (cRf 4 8 (va_up G i (some h.length)))).length = h.length + 6 := by rw [List.length_set, List.length_append]; rfl
          have up : ∀ q, ((h ++ [cTr 0 0 0 0 0 0 0 (h.length + 1) (h.length + 2) (h.length + 3) (h.length + 4) (h.length + 5), mA 6 (fun _ => 0), mA 6 (fun _ => 0), mA 6 (fun _ => 0), mA 8 (fun _ => 0), mA 8 (fun _ => 0)]).set (b + 6) (cRf 4 8 (va_up G i (some h.length))))[h.length + q]? = (cTr 0 0 0 0 0 0 0 (h.length + 1) (h.length + 2) (h.length + 3) (h.length + 4) (h.length + 5) :: [mA 6 (fun _ => 0), mA 6 (fun _ => 0), mA 6 (fun _ => 0), mA 8 (fun _ => 0), mA 8 (fun _ => 0)])[q]? := fun q => (set_ne (by omega)).trans (gp_i q)
          have hc9 : ∃ U nu, CT ((h ++ [cTr 0 0 0 0 0 0 0 (h.length + 1) (h.length + 2) (h.length + 3) (h.length + 4) (h.length + 5), mA 6 (fun _ => 0), mA 6 (fun _ => 0), mA 6 (fun _ => 0), mA 8 (fun _ => 0), mA 8 (fun _ => 0)]).set (b + 6) (cRf 4 8 (va_up G i (some h.length)))) h.length U nu := ⟨fun _ => 0, 0, 0, ⟨by decide, fun q q1 q2 => bit0 q⟩, up 0, ⟨_, up 1, fun _ _ _ => rfl⟩, ⟨_, up 2, fun _ _ _ => rfl⟩, ⟨_, up 3, fun _ _ _ => rfl⟩, ⟨_, up 4, fun _ _ _ => rfl⟩, ⟨_, up 5, fun _ _ _ => rfl⟩⟩
          have y := x.neu (by omega) h47 hB (by omega) L9 (fun j j1 j2 => (set_ne j2).trans (gp_j j1)) (ev_gs ((gp_j (show b + 6 < h.length by omega)).trans hG)) hc9
          exact e4_ttE hab h47 hWa hWb hFa hn hB hA han hi y s1 (fun h2 a4 a5 c4 c5 z => kk _ h2 a4 a5 c4 c5 z)
    | some t =>
      by_cases ha : an = 0
      · subst ha
        refine ex_of (fun _ _ => ev_iload_n (pc' := 11) dX4_takeTravellers_10 rfl rfl) ?_
        refine ex_of (fun _ _ => ev_aload_n (pc' := 12) dX4_takeTravellers_11 rfl rfl) ?_
        refine ex_of (fun _ _ => ev_getfield (pc' := 15) fX4_15 dX4_takeTravellers_12 rfl hW rfl) ?_
        refine ex_icmpI_ge (pc' := 18) (tgt := 78) dX4_takeTravellers_15 (by decide) rfl (by omega) (by omega) (fun c15 => ?_) (fun c15 => ?_)
        · omega
        · refine ex_of (fun _ _ => ev_aload_n (pc' := 19) dX4_takeTravellers_18 rfl rfl) ?_
          refine ex_of (fun _ _ => ev_getfield (pc' := 22) fX4_39 dX4_takeTravellers_19 rfl hV rfl) ?_
          refine ex_of (fun _ _ => ev_iload_n (pc' := 23) dX4_takeTravellers_22 rfl rfl) ?_
          refine ex_of (fun _ _ => ev_aaload (pc' := 24) (Or.inr rfl) dX4_takeTravellers_23 rfl hFa' (iI_in (by omega) (by decide))) ?_
          rw [ek, s1]
          refine ex_of (fun _ _ => ev_astore_4 (pc' := 26) dX4_takeTravellers_24 rfl (by decide) rfl) ?_
          refine ex_of (fun _ _ => ev_aload_n (pc' := 27) dX4_takeTravellers_26 rfl rfl) ?_
          refine ex_of (fun _ _ => ev_getfield (pc' := 30) fX4_39 dX4_takeTravellers_27 rfl hW rfl) ?_
          refine ex_of (fun _ _ => ev_iload_n (pc' := 31) dX4_takeTravellers_30 rfl rfl) ?_
          refine ex_of (fun _ _ => ev_aaload (pc' := 32) (Or.inr rfl) dX4_takeTravellers_31 rfl hG (iI_in (by omega) (by decide))) ?_
          rw [ek, gi, hm]
          refine ex_of (fun _ _ => ev_astore_5 (pc' := 34) dX4_takeTravellers_32 rfl (by decide) rfl) ?_
          refine ex_of (fun _ _ => ev_iload_n (pc' := 35) dX4_takeTravellers_34 rfl rfl) ?_
          refine ex_ifI_ne (pc' := 38) (tgt := 43) dX4_takeTravellers_35 (by decide) rfl (by omega) (fun c35 => ?_) (fun c35 => ?_)
          · omega
          · refine ex_of (fun _ _ => ev_aload (pc' := 40) dX4_takeTravellers_38 rfl rfl) ?_
            refine ex_of (fun _ _ => ev_ifnonnull (tgt := 60) dX4_takeTravellers_40 (by decide)) ?_
            exact e4_ttE hab h47 hWa hWb hFa hn hB hA han hi (x.old hB (by omega) hm) s1 (fun h2 a4 a5 c4 c5 z => kk _ h2 a4 a5 c4 c5 z)
      · skip
        refine ex_of (fun _ _ => ev_iload_n (pc' := 11) dX4_takeTravellers_10 rfl rfl) ?_
        refine ex_of (fun _ _ => ev_aload_n (pc' := 12) dX4_takeTravellers_11 rfl rfl) ?_
        refine ex_of (fun _ _ => ev_getfield (pc' := 15) fX4_15 dX4_takeTravellers_12 rfl hW rfl) ?_
        refine ex_icmpI_ge (pc' := 18) (tgt := 78) dX4_takeTravellers_15 (by decide) rfl (by omega) (by omega) (fun c15 => ?_) (fun c15 => ?_)
        · omega
        · refine ex_of (fun _ _ => ev_aload_n (pc' := 19) dX4_takeTravellers_18 rfl rfl) ?_
          refine ex_of (fun _ _ => ev_getfield (pc' := 22) fX4_39 dX4_takeTravellers_19 rfl hV rfl) ?_
          refine ex_of (fun _ _ => ev_iload_n (pc' := 23) dX4_takeTravellers_22 rfl rfl) ?_
          refine ex_of (fun _ _ => ev_aaload (pc' := 24) (Or.inr rfl) dX4_takeTravellers_23 rfl hFa' (iI_in (by omega) (by decide))) ?_
          rw [ek, s1]
          refine ex_of (fun _ _ => ev_astore_4 (pc' := 26) dX4_takeTravellers_24 rfl (by decide) rfl) ?_
          refine ex_of (fun _ _ => ev_aload_n (pc' := 27) dX4_takeTravellers_26 rfl rfl) ?_
          refine ex_of (fun _ _ => ev_getfield (pc' := 30) fX4_39 dX4_takeTravellers_27 rfl hW rfl) ?_
          refine ex_of (fun _ _ => ev_iload_n (pc' := 31) dX4_takeTravellers_30 rfl rfl) ?_
          refine ex_of (fun _ _ => ev_aaload (pc' := 32) (Or.inr rfl) dX4_takeTravellers_31 rfl hG (iI_in (by omega) (by decide))) ?_
          rw [ek, gi, hm]
          refine ex_of (fun _ _ => ev_astore_5 (pc' := 34) dX4_takeTravellers_32 rfl (by decide) rfl) ?_
          refine ex_of (fun _ _ => ev_iload_n (pc' := 35) dX4_takeTravellers_34 rfl rfl) ?_
          refine ex_ifI_ne (pc' := 38) (tgt := 43) dX4_takeTravellers_35 (by decide) rfl (by omega) (fun c35 => ?_) (fun c35 => ?_)
          · refine ex_of (fun _ _ => ev_new (pc' := 46) nwX4_37 dX4_takeTravellers_43 rfl) ?_
            refine ex_of (fun _ _ => ev_dup (pc' := 47) dX4_takeTravellers_46 rfl rfl) ?_
            refine ex_of (fun _ _ => ev_callI0v (pc' := 50) kX4_115 mX3_init dX4_takeTravellers_47 rfl rfl (Nat.le_of_ble_eq_true rfl) (Nat.le_of_ble_eq_true rfl) (by decide) (e3_init (g := h))) ?_
            refine ex_of (fun _ _ => ev_astore_5 (pc' := 52) dX4_takeTravellers_50 rfl (by decide) rfl) ?_
            refine ex_of (fun _ _ => ev_aload_n (pc' := 53) dX4_takeTravellers_52 rfl rfl) ?_
            refine ex_of (fun _ _ => ev_getfield (pc' := 56) fX4_39 dX4_takeTravellers_53 rfl ((gp_j (show b < h.length by omega)).trans hW) rfl) ?_
            refine ex_of (fun _ _ => ev_iload_n (pc' := 57) dX4_takeTravellers_56 rfl rfl) ?_
            refine ex_of (fun _ _ => ev_aload (pc' := 59) dX4_takeTravellers_57 rfl rfl) ?_
            refine ex_of (fun _ _ => ev_aastore (pc' := 60) (Or.inr ⟨rfl, rfl⟩) dX4_takeTravellers_59 rfl ((gp_j (show b + 6 < h.length by omega)).trans hG) gp_get (iI_in (by omega) (by decide))) ?_
            rw [ek]
            have L9 : ((h ++ [cTr 0 0 0 0 0 0 0 (h.length + 1) (h.length + 2) (h.length + 3) (h.length + 4) (h.length + 5), mA 6 (fun _ => 0), mA 6 (fun _ => 0), mA 6 (fun _ => 0), mA 8 (fun _ => 0), mA 8 (fun _ => 0)]).set (b + 6) (cRf 4 8 (va_up G i (some h.length)))).length = h.length + 6 := by rw [List.length_set, List.length_append]; rfl
            have up : ∀ q, ((h ++ [cTr 0 0 0 0 0 0 0 (h.length + 1) (h.length + 2) (h.length + 3) (h.length + 4) (h.length + 5), mA 6 (fun _ => 0), mA 6 (fun _ => 0), mA 6 (fun _ => 0), mA 8 (fun _ => 0), mA 8 (fun _ => 0)]).set (b + 6) (cRf 4 8 (va_up G i (some h.length))))[h.length + q]? = (cTr 0 0 0 0 0 0 0 (h.length + 1) (h.length + 2) (h.length + 3) (h.length + 4) (h.length + 5) :: [mA 6 (fun _ => 0), mA 6 (fun _ => 0), mA 6 (fun _ => 0), mA 8 (fun _ => 0), mA 8 (fun _ => 0)])[q]? := fun q => (set_ne (by omega)).trans (gp_i q)
            have hc9 : ∃ U nu, CT ((h ++ [cTr 0 0 0 0 0 0 0 (h.length + 1) (h.length + 2) (h.length + 3) (h.length + 4) (h.length + 5), mA 6 (fun _ => 0), mA 6 (fun _ => 0), mA 6 (fun _ => 0), mA 8 (fun _ => 0), mA 8 (fun _ => 0)]).set (b + 6) (cRf 4 8 (va_up G i (some h.length)))) h.length U nu := ⟨fun _ => 0, 0, 0, ⟨by decide, fun q q1 q2 => bit0 q⟩, up 0, ⟨_, up 1, fun _ _ _ => rfl⟩, ⟨_, up 2, fun _ _ _ => rfl⟩, ⟨_, up 3, fun _ _ _ => rfl⟩, ⟨_, up 4, fun _ _ _ => rfl⟩, ⟨_, up 5, fun _ _ _ => rfl⟩⟩
            have y := x.neu (by omega) h47 hB (by omega) L9 (fun j j1 j2 => (set_ne j2).trans (gp_j j1)) (ev_gs ((gp_j (show b + 6 < h.length by omega)).trans hG)) hc9
            exact e4_ttE hab h47 hWa hWb hFa hn hB hA han hi y s1 (fun h2 a4 a5 c4 c5 z => kk _ h2 a4 a5 c4 c5 z)
          · omega
theorem e4_takeTravellers {an pa na la pb lb : Int} {n : Nat} {nb : Int} (hab : (a = 1 ∧ b = 8) ∨ (a = 8 ∧ b = 1)) (h47 : 47 ≤ h.length) (hm6 : (h.length - 47) % 6 = 0) (hWa : h[a]? = some (cWo pa (n : Int) la (a + 1) (a + 2) (a + 3) (a + 4) (a + 5) (a + 6))) (hWb : h[b]? = some (cWo pb nb lb (b + 1) (b + 2) (b + 3) (b + 4) (b + 5) (b + 6))) (hFa : h[a + 6]? = some (cRf 4 8 Fa)) (hFb : h[b + 6]? = some (cRf 4 8 Fb)) (hn : n ≤ 8) (hB : TB h Fb an) (hA : TA h S Fa Fb an n) (han : an = 0 ∨ an = 1) : Ex l 2 yX4_takeTravellers.cls yX4_takeTravellers.name cX4_takeTravellers 6 none 0 [some (.ref b), some (.ref a), some (.int (iI an)), none, none, none] [] h (fun v h2 => v = none ∧ ∃ h1 G, h1.length = h.length ∧ (∀ j, j ≠ b → h1[j]? = h[j]?) ∧ h1[b]? = some (cWo pb (n : Int) lb (b + 1) (b + 2) (b + 3) (b + 4) (b + 5) (b + 6)) ∧ TI h1 b S Fb an n h2 G) := by
  refine ex_of (fun _ _ => ev_aload_n (pc' := 1) dX4_takeTravellers_0 rfl rfl) ?_
  refine ex_of (fun _ _ => ev_aload_n (pc' := 2) dX4_takeTravellers_1 rfl rfl) ?_
  refine ex_of (fun _ _ => ev_getfield (pc' := 5) fX4_15 dX4_takeTravellers_2 rfl hWa rfl) ?_
  refine xpu (pc' := 8) (fs' := [.int (iI pb), .int (iI (n : Int)), .int (iI lb), .ref (b + 1), .ref (b + 2), .ref (b + 3), .ref (b + 4), .ref (b + 5), .ref (b + 6)]) (pX4_15 _) dX4_takeTravellers_5 rfl hWb rfl rfl (Nat.le_of_ble_eq_true rfl) rfl (fun h1 L1 hW1 g1 => ?_)
  have hB1 : TB h1 Fb an := fun z => ⟨fun k t k8 kt => ⟨((hB z).1 k t k8 kt).1.mo (by omega), by obtain ⟨tg, U, nu, q⟩ := (hB z).1 k t k8 kt; exact ⟨U, nu, q.eq (fun j j1 j2 => g1 j (by have := tg.1; omega))⟩⟩, (hB z).2⟩
  have hA1 : TA h1 S Fa Fb an n := fun k hk => by
    obtain ⟨s, q1, q2, q3, q4⟩ := hA k hk
    exact ⟨s, q1, q2.eq (fun j j1 j2 => g1 j (by have := q3.1; omega)), q3.mo (by omega), q4⟩
  have x0 : TI h1 b S Fb an 0 h1 Fb := ⟨⟨by omega, by omega, by omega⟩, fun _ _ _ _ => rfl, (g1 _ (by omega)).trans hFb, fun k hk => absurd hk (by omega), fun _ _ => rfl, fun _ _ _ _ _ _ _ _ _ => rfl, fun k _ _ hk => absurd hk (by omega)⟩
  have K := e4_ttL (l := l) (h0 := h1) (la := la) (pa := pa) hab (by omega) ((g1 a (by omega)).trans hWa) hW1 ((g1 _ (by omega)).trans hFa) hn hB1 hA1 han n 0 h1 Fb none none rfl rfl (by omega) x0
  refine ex_of (fun _ _ => ev_iconst (pc' := 9) (iI (0)) dX4_takeTravellers_8 rfl (by decide)) ?_
  refine ex_of (fun _ _ => ev_istore_3 (pc' := 10) dX4_takeTravellers_9 rfl (by decide) rfl) ?_
  exact Ex.mono K (fun v h2 q => ⟨q.1, h1, q.2.choose, L1, g1, hW1, q.2.choose_spec⟩)
end CY2
