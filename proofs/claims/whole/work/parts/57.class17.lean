section CT1
variable {l : Launch} {h h2 : ev_H} {im : Int} {A A' : Nat → Int → Int} {F F2 w w' : Nat → Option Nat} {t : Nat} {k : Int}
/-- no leg that isn't there goes east -/
def mU (S : Int → Int) (k : Int) : Prop := ∀ i, S (143 + 45 * k + 3) ≤ i → i < 6 → S (143 + 45 * k + (4 + 4 * i + 1)) = 0
theorem bit_add {ea n : Int} (h1 : 0 ≤ ea ∧ ea < 64) (hn : 0 ≤ n ∧ n < 6) (hb : bitI ea n = 0) : (iI ea ||| (iI 1 <<< (iI n &&& 31))) = iI (ea + (2 ^ n.toNat : Nat)) ∧ (0 ≤ ea + (2 ^ n.toNat : Nat) ∧ ea + (2 ^ n.toNat : Nat) < 64) ∧ bitI (ea + (2 ^ n.toNat : Nat)) n = 1 ∧ ∀ i, 0 ≤ i → i < 6 → i ≠ n → bitI (ea + (2 ^ n.toNat : Nat)) i = bitI ea i := by
  obtain ⟨E, rfl⟩ : ∃ E : Nat, ea = E := ⟨ea.toNat, by omega⟩
  obtain ⟨x, rfl⟩ : ∃ x : Nat, n = x := ⟨n.toNat, by omega⟩
  have hb2 : bN E x = 0 := by rw [bN_I] at hb; omega
  have hE : E < 64 := by omega
  rw [show ((x : Int)).toNat = x by omega]
  have lt := pn_lt 6 (by decide) x (by omega) E (by omega) hb2
  have e : (E : Int) + ((2 ^ x : Nat) : Int) = ((E + 2 ^ x : Nat) : Int) := by omega
  obtain ⟨b1, -, b3⟩ := pn_bit x (by omega) E hE hb2
  rw [e]
  refine ⟨pn_or x (by omega) E hE hb2, ⟨Int.natCast_nonneg _, by omega⟩, by rw [bN_I, b1]; rfl, fun i i1 i2 i3 => ?_⟩
  obtain ⟨y, rfl⟩ : ∃ y : Nat, i = y := ⟨i.toNat, by omega⟩
  rw [bN_I, bN_I, b3 y (by omega) (by omega)]
theorem e3_addLeg {q b f mi : Int} {nu ki ho sy n ea ch : Int} {to fro en : Int → Int} (hT : h[t]? = some (cTr nu ki ho sy n ea ch (t + 1) (t + 2) (t + 3) (t + 4) (t + 5))) (hto : h[t + 1]? = some (mA 6 to)) (hfr : h[t + 2]? = some (mA 6 fro)) (hen : h[t + 3]? = some (mA 6 en)) (hn : 0 ≤ n ∧ n < 6) (hea : 0 ≤ ea ∧ ea < 64) (hb0 : bitI ea n = 0) (hb : b = 0 ∨ b = 1) : Ex l 0 yX3_addLeg.cls yX3_addLeg.name cX3_addLeg 5 none 0 [some (.ref t), some (.int (iI q)), some (.int (iI b)), some (.int (iI f)), some (.int (iI mi))] [] h (fun v h2 => v = none ∧ h2.length = h.length ∧ h2[t]? = some (cTr nu ki ho sy (n + 1) (if b = 0 then ea else ea + (2 ^ n.toNat : Nat)) ch (t + 1) (t + 2) (t + 3) (t + 4) (t + 5)) ∧ h2[t + 1]? = some (mA 6 (upI to n q)) ∧ h2[t + 2]? = some (mA 6 (upI fro n f)) ∧ h2[t + 3]? = some (mA 6 (upI en n (f + mi))) ∧ ∀ j, j ≠ t → j ≠ t + 1 → j ≠ t + 2 → j ≠ t + 3 → h2[j]? = h[j]?) := by
  obtain ⟨o1, -, -, -⟩ := bit_add hea hn hb0
  have g1 : (h.set (t + 1) (mA 6 (upI to n q)))[t]? = some (cTr nu ki ho sy n ea ch (t + 1) (t + 2) (t + 3) (t + 4) (t + 5)) := ev_gn (by omega) hT
  have g2 : ((h.set (t + 1) (mA 6 (upI to n q))).set (t + 2) (mA 6 (upI fro n f)))[t]? = some (cTr nu ki ho sy n ea ch (t + 1) (t + 2) (t + 3) (t + 4) (t + 5)) := ev_gn (by omega) g1
  have g3 : (((h.set (t + 1) (mA 6 (upI to n q))).set (t + 2) (mA 6 (upI fro n f))).set (t + 3) (mA 6 (upI en n (f + mi))))[t]? = some (cTr nu ki ho sy n ea ch (t + 1) (t + 2) (t + 3) (t + 4) (t + 5)) := ev_gn (by omega) g2
  refine ex_of (fun _ _ => ev_aload_n (pc' := 1) dX3_addLeg_0 rfl rfl) ?_
  refine ex_of (fun _ _ => ev_getfield (pc' := 4) fX3_24 dX3_addLeg_1 rfl hT rfl) ?_
  refine ex_of (fun _ _ => ev_bipush (pc' := 6) (iI (6)) dX3_addLeg_4 rfl (by decide)) ?_
  refine ex_icmpI_lt (pc' := 9) (tgt := 10) dX3_addLeg_6 (by decide) rfl (by omega) (by omega) (fun c6 => ?_) (fun c6 => ?_)
  · refine ex_of (fun _ _ => ev_aload_n (pc' := 11) dX3_addLeg_10 rfl rfl) ?_
    refine ex_of (fun _ _ => ev_getfield (pc' := 14) fX3_30 dX3_addLeg_11 rfl hT rfl) ?_
    refine ex_of (fun _ _ => ev_aload_n (pc' := 15) dX3_addLeg_14 rfl rfl) ?_
    refine ex_of (fun _ _ => ev_getfield (pc' := 18) fX3_24 dX3_addLeg_15 rfl hT rfl) ?_
    refine ex_of (fun _ _ => ev_iload_n (pc' := 19) dX3_addLeg_18 rfl rfl) ?_
    refine ex_of (fun _ _ => ev_iastoreI (pc' := 20) dX3_addLeg_19 rfl hto (by decide) (by omega)) ?_
    refine ex_of (fun _ _ => ev_aload_n (pc' := 21) dX3_addLeg_20 rfl rfl) ?_
    refine ex_of (fun _ _ => ev_getfield (pc' := 24) fX3_34 dX3_addLeg_21 rfl g1 rfl) ?_
    refine ex_of (fun _ _ => ev_aload_n (pc' := 25) dX3_addLeg_24 rfl rfl) ?_
    refine ex_of (fun _ _ => ev_getfield (pc' := 28) fX3_24 dX3_addLeg_25 rfl g1 rfl) ?_
    refine ex_of (fun _ _ => ev_iload_n (pc' := 29) dX3_addLeg_28 rfl rfl) ?_
    refine ex_of (fun _ _ => ev_iastoreI (pc' := 30) dX3_addLeg_29 rfl ((set_ne (by omega)).trans hfr) (by decide) (by omega)) ?_
    refine ex_of (fun _ _ => ev_aload_n (pc' := 31) dX3_addLeg_30 rfl rfl) ?_
    refine ex_of (fun _ _ => ev_getfield (pc' := 34) fX3_37 dX3_addLeg_31 rfl g2 rfl) ?_
    refine ex_of (fun _ _ => ev_aload_n (pc' := 35) dX3_addLeg_34 rfl rfl) ?_
    refine ex_of (fun _ _ => ev_getfield (pc' := 38) fX3_24 dX3_addLeg_35 rfl g2 rfl) ?_
    refine ex_of (fun _ _ => ev_iload_n (pc' := 39) dX3_addLeg_38 rfl rfl) ?_
    refine ex_of (fun _ _ => ev_iload (pc' := 41) dX3_addLeg_39 rfl rfl) ?_
    refine ex_of (fun _ _ => ev_iaddI (pc' := 42) dX3_addLeg_41 rfl) ?_
    refine ex_of (fun _ _ => ev_iastoreI (pc' := 43) dX3_addLeg_42 rfl ((set_ne (by omega)).trans ((set_ne (by omega)).trans hen)) (by decide) (by omega)) ?_
    refine ex_of (fun _ _ => ev_iload_n (pc' := 44) dX3_addLeg_43 rfl rfl) ?_
    refine ex_ifI_eq (pc' := 47) (tgt := 62) dX3_addLeg_44 (by decide) rfl (by omega) (fun c44 => ?_) (fun c44 => ?_)
    · refine ex_of (fun _ _ => ev_aload_n (pc' := 63) dX3_addLeg_62 rfl rfl) ?_
      refine ex_of (fun _ _ => ev_dup (pc' := 64) dX3_addLeg_63 rfl rfl) ?_
      refine ex_of (fun _ _ => ev_getfield (pc' := 67) fX3_24 dX3_addLeg_64 rfl g3 rfl) ?_
      refine ex_of (fun _ _ => ev_iconst (pc' := 68) (iI (1)) dX3_addLeg_67 rfl (by decide)) ?_
      refine ex_of (fun _ _ => ev_iaddI (pc' := 69) dX3_addLeg_68 rfl) ?_
      refine ex_of (fun _ _ => ev_putfield (pc' := 72) (pX3_24 _) dX3_addLeg_69 rfl g3 rfl rfl (Nat.le_of_ble_eq_true rfl)) ?_
      exact ex_end (ev_vret dX3_addLeg_72) (⟨rfl, by repeat rw [List.length_set], by rw [if_pos (by omega)]; exact ev_gs g3, (set_ne (by omega)).trans ((set_ne (by omega)).trans ((set_ne (by omega)).trans (ev_gs hto))), (set_ne (by omega)).trans ((set_ne (by omega)).trans (ev_gs ((set_ne (by omega)).trans hfr))), (set_ne (by omega)).trans (ev_gs ((set_ne (by omega)).trans ((set_ne (by omega)).trans hen))), fun j j1 j2 j3 j4 => (set_ne j1).trans ((set_ne j4).trans ((set_ne j3).trans (set_ne j2)))⟩)
    · refine ex_of (fun _ _ => ev_aload_n (pc' := 48) dX3_addLeg_47 rfl rfl) ?_
      refine ex_of (fun _ _ => ev_dup (pc' := 49) dX3_addLeg_48 rfl rfl) ?_
      refine ex_of (fun _ _ => ev_getfield (pc' := 52) fX3_27 dX3_addLeg_49 rfl g3 rfl) ?_
      refine ex_of (fun _ _ => ev_iconst (pc' := 53) (iI (1)) dX3_addLeg_52 rfl (by decide)) ?_
      refine ex_of (fun _ _ => ev_aload_n (pc' := 54) dX3_addLeg_53 rfl rfl) ?_
      refine ex_of (fun _ _ => ev_getfield (pc' := 57) fX3_24 dX3_addLeg_54 rfl g3 rfl) ?_
      refine ex_of (fun _ _ => ev_ishl (pc' := 58) dX3_addLeg_57 rfl) ?_
      refine ex_of (fun _ _ => ev_ior (pc' := 59) dX3_addLeg_58 rfl) ?_
      rw [o1]
      refine ex_of (fun _ _ => ev_putfield (pc' := 62) (pX3_27 _) dX3_addLeg_59 rfl g3 rfl rfl (Nat.le_of_ble_eq_true rfl)) ?_
      refine ex_of (fun _ _ => ev_aload_n (pc' := 63) dX3_addLeg_62 rfl rfl) ?_
      refine ex_of (fun _ _ => ev_dup (pc' := 64) dX3_addLeg_63 rfl rfl) ?_
      refine ex_of (fun _ _ => ev_getfield (pc' := 67) fX3_24 dX3_addLeg_64 rfl (ev_gs g3) rfl) ?_
      refine ex_of (fun _ _ => ev_iconst (pc' := 68) (iI (1)) dX3_addLeg_67 rfl (by decide)) ?_
      refine ex_of (fun _ _ => ev_iaddI (pc' := 69) dX3_addLeg_68 rfl) ?_
      refine ex_of (fun _ _ => ev_putfield (pc' := 72) (pX3_24 _) dX3_addLeg_69 rfl (ev_gs g3) rfl rfl (Nat.le_of_ble_eq_true rfl)) ?_
      exact ex_end (ev_vret dX3_addLeg_72) (⟨rfl, by repeat rw [List.length_set], by rw [if_neg (by omega)]; exact ev_gs (ev_gs g3), (set_ne (by omega)).trans ((set_ne (by omega)).trans ((set_ne (by omega)).trans ((set_ne (by omega)).trans (ev_gs hto)))), (set_ne (by omega)).trans ((set_ne (by omega)).trans ((set_ne (by omega)).trans (ev_gs ((set_ne (by omega)).trans hfr)))), (set_ne (by omega)).trans ((set_ne (by omega)).trans (ev_gs ((set_ne (by omega)).trans ((set_ne (by omega)).trans hen)))), fun j j1 j2 j3 j4 => (set_ne j1).trans ((set_ne j1).trans ((set_ne j4).trans ((set_ne j3).trans (set_ne j2))))⟩)
  · omega
theorem lgS_i {S : Int → Int} {k q ea f hr i : Int} (hn : 0 ≤ S (143 + 45 * k + 3) ∧ S (143 + 45 * k + 3) < 6) (hi : 0 ≤ i ∧ i < 6) : lgS S k q ea f hr (143 + 45 * k + (4 + 4 * i + 0)) = (if i = S (143 + 45 * k + 3) then q else S (143 + 45 * k + (4 + 4 * i + 0))) ∧ lgS S k q ea f hr (143 + 45 * k + (4 + 4 * i + 1)) = (if i = S (143 + 45 * k + 3) then (if ea = 0 then 0 else 1) else S (143 + 45 * k + (4 + 4 * i + 1))) ∧ lgS S k q ea f hr (143 + 45 * k + (4 + 4 * i + 2)) = (if i = S (143 + 45 * k + 3) then f else S (143 + 45 * k + (4 + 4 * i + 2))) ∧ lgS S k q ea f hr (143 + 45 * k + (4 + 4 * i + 3)) = (if i = S (143 + 45 * k + 3) then hr else S (143 + 45 * k + (4 + 4 * i + 3))) := by
  unfold lgS
  generalize hS : S (143 + 45 * k + 3) = n at *
  by_cases c : i = n
  · subst c
    refine ⟨?_, ?_, ?_, ?_⟩
    · rw [upI_n (by omega), upI_n (by omega), upI_n (by omega), upI_n (by omega), show 143 + 45 * k + (4 + 4 * i + 0) = 143 + 45 * k + 4 + 4 * i by omega, upI_s, if_pos rfl]
    · rw [upI_n (by omega), upI_n (by omega), upI_n (by omega), show 143 + 45 * k + (4 + 4 * i + 1) = 143 + 45 * k + 4 + 4 * i + 1 by omega, upI_s, if_pos rfl]
    · rw [upI_n (by omega), upI_n (by omega), show 143 + 45 * k + (4 + 4 * i + 2) = 143 + 45 * k + 4 + 4 * i + 2 by omega, upI_s, if_pos rfl]
    · rw [upI_n (by omega), show 143 + 45 * k + (4 + 4 * i + 3) = 143 + 45 * k + 4 + 4 * i + 3 by omega, upI_s, if_pos rfl]
  · simp only [if_neg c]
    refine ⟨?_, ?_, ?_, ?_⟩ <;> rw [upI_n (by omega), upI_n (by omega), upI_n (by omega), upI_n (by omega), upI_n (by omega)]
theorem lgS_o {S : Int → Int} {k q ea f hr x : Int} (hn : 0 ≤ S (143 + 45 * k + 3) ∧ S (143 + 45 * k + 3) < 6) (hx : x < 143 + 45 * k + 3 ∨ 143 + 45 * k + 28 ≤ x) : lgS S k q ea f hr x = S x := by
  unfold lgS
  rw [upI_n (by omega), upI_n (by omega), upI_n (by omega), upI_n (by omega), upI_n (by omega)]
theorem lgS_3 {S : Int → Int} {k q ea f hr : Int} : lgS S k q ea f hr (143 + 45 * k + 3) = S (143 + 45 * k + 3) + 1 := by unfold lgS; rw [upI_s]
theorem c_leg {k q b f hr : Int} (x : CL h im A F F2 w) (hI : mI0 (A 0)) (hJ : mIP (A 0)) (hK : ∀ k, 0 ≤ k → k < A 0 1 → mT (A 0) k) (hU : ∀ k, 0 ≤ k → k < A 0 1 → mU (A 0) k) (hb : b = 0 ∨ b = 1) (rk : -2147483648 ≤ k ∧ k < 2147483648) (rq : -2147483648 ≤ q ∧ q < 2147483648) (rf : -2147483648 ≤ f ∧ f < 2147483648) (rhr : -2147483648 ≤ hr ∧ hr < 2147483648) : Ex l 1 yX5_leg.cls yX5_leg.name cX5_leg 7 (some .int) 0 [some (.ref 0), some (.int (iI k)), some (.int (iI q)), some (.int (iI b)), some (.int (iI f)), some (.int (iI hr)), none] [] h (clP h (if lgB (A 0) k q f hr then some (.int (iI (A 0 (143 + 45 * k + 3) + 1))) else some (.int (iI (lgE (A 0) k q f hr)))) im (if lgB (A 0) k q f hr then upA A 0 (lgS (A 0) k q b f hr) else A)) := by
  obtain ⟨⟨i1, i2⟩, ⟨i3, i4⟩, i5, i6⟩ := id hI
  have hR := x.rc
  have hX0 := x.x0
  have hN := hR.nw
  obtain ⟨D, R, C, Q, X, hW, ⟨hD, eD⟩, ⟨hRu, eR⟩, ⟨hC, eC⟩, ⟨hQ, eQ⟩, ⟨hX, eX⟩, hF⟩ := CW.op hN
  by_cases hk : 0 ≤ k ∧ k < A 0 1
  · obtain ⟨t, ht, hCT, h47⟩ := hR.2.2.2 k hk.1 hk.2
    have hM := hK k hk.1 hk.2
    obtain ⟨t0, t1, t2, t3, t4, t5, t6, t7⟩ := id hM
    obtain ⟨ea, to, fro, en, ca, cb, ⟨be1, be2⟩, hT, ⟨hto, eto⟩, ⟨hfr, efr⟩, ⟨hen, een⟩, ⟨hca, eca⟩, ⟨hcb, ecb⟩⟩ := CT.op hCT
    refine ex_of (fun _ _ => ev_aload_n (pc' := 1) dX5_leg_0 rfl rfl) ?_
    refine ex_of (fun _ _ => ev_getfield (pc' := 4) fX5_12 dX5_leg_1 rfl hX0 rfl) ?_
    refine ex_of (fun _ _ => ev_iload_n (pc' := 5) dX5_leg_4 rfl rfl) ?_
    refine ex_of (fun _ _ => ev_callV1 (pc' := 8) kX5_137 mX4_travellerOf dX5_leg_5 rfl rfl (Nat.le_of_ble_eq_true rfl) (Nat.le_of_ble_eq_true rfl) (by decide) rfl hW (e4_travellerOf hN hI hk ht)) ?_
    refine ex_of (fun _ _ => ev_astore_6 (pc' := 10) dX5_leg_8 rfl (by decide) rfl) ?_
    refine ex_of (fun _ _ => ev_aload (pc' := 12) dX5_leg_10 rfl rfl) ?_
    refine ex_of (fun _ _ => ev_ifnull (pc' := 15) dX5_leg_12 rfl) ?_
    refine ex_of (fun _ _ => ev_aload_n (pc' := 16) dX5_leg_15 rfl rfl) ?_
    refine ex_of (fun _ _ => ev_getfield (pc' := 19) fX5_12 dX5_leg_16 rfl hX0 rfl) ?_
    refine ex_of (fun _ _ => ev_iload_n (pc' := 20) dX5_leg_19 rfl rfl) ?_
    refine ex_of (fun _ _ => ev_callV1 (pc' := 23) kX5_68 mX4_hasPlace dX5_leg_20 rfl rfl (Nat.le_of_ble_eq_true rfl) (Nat.le_of_ble_eq_true rfl) (by decide) rfl hW (e4_hasPlace hN hI (by omega))) ?_
    refine ex_ifd_eq (pc' := 26) (tgt := 48) dX5_leg_23 (by decide) rfl (fun c23 => ?_) (fun c23 => ?_)
    · refine ex_of (fun _ _ => ev_iconst (pc' := 49) (iI (-1)) dX5_leg_48 rfl (by decide)) ?_
      exact ex_end (ev_iret dX5_leg_49 rfl) (by rw [show lgB (A 0) k q f hr = false by unfold lgB lgV lgO; rw [decide_eq_false (by omega)]; rfl, show lgE (A 0) k q f hr = -1 by unfold lgE lgV; rw [decide_eq_false (by omega)]; rfl]; exact x.same)
    · refine ex_of (fun _ _ => ev_iload (pc' := 28) dX5_leg_26 rfl rfl) ?_
      refine ex_of (fun _ _ => ev_callS1 (pc' := 31) kX5_96 mX5_isMinute dX5_leg_28 rfl rfl (Nat.le_of_ble_eq_true rfl) (Nat.le_of_ble_eq_true rfl) (by decide) (e5_isMinute (by omega))) ?_
      refine ex_ifd_eq (pc' := 34) (tgt := 48) dX5_leg_31 (by decide) rfl (fun c31 => ?_) (fun c31 => ?_)
      · refine ex_of (fun _ _ => ev_iconst (pc' := 49) (iI (-1)) dX5_leg_48 rfl (by decide)) ?_
        exact ex_end (ev_iret dX5_leg_49 rfl) (by rw [show lgB (A 0) k q f hr = false by unfold lgB lgV lgO; rw [decide_eq_false (by omega)]; rfl, show lgE (A 0) k q f hr = -1 by unfold lgE lgV; rw [decide_eq_false (by omega)]; rfl]; exact x.same)
      · refine ex_of (fun _ _ => ev_iload (pc' := 36) dX5_leg_34 rfl rfl) ?_
        refine ex_of (fun _ _ => ev_iconst (pc' := 37) (iI (1)) dX5_leg_36 rfl (by decide)) ?_
        refine ex_icmpI_lt (pc' := 40) (tgt := 48) dX5_leg_37 (by decide) rfl (by omega) (by omega) (fun c37 => ?_) (fun c37 => ?_)
        · refine ex_of (fun _ _ => ev_iconst (pc' := 49) (iI (-1)) dX5_leg_48 rfl (by decide)) ?_
          exact ex_end (ev_iret dX5_leg_49 rfl) (by rw [show lgB (A 0) k q f hr = false by unfold lgB lgV lgO; rw [decide_eq_false (by omega)]; rfl, show lgE (A 0) k q f hr = -1 by unfold lgE lgV; rw [decide_eq_false (by omega)]; rfl]; exact x.same)
        · refine ex_of (fun _ _ => ev_iload (pc' := 42) dX5_leg_40 rfl rfl) ?_
          refine ex_of (fun _ _ => ev_sipush (pc' := 45) (iI (200)) dX5_leg_42 rfl (by decide)) ?_
          refine ex_icmpI_le (pc' := 48) (tgt := 50) dX5_leg_45 (by decide) rfl (by omega) (by omega) (fun c45 => ?_) (fun c45 => ?_)
          · refine ex_of (fun _ _ => ev_aload (pc' := 52) dX5_leg_50 rfl rfl) ?_
            refine ex_of (fun _ _ => ev_getfield (pc' := 55) fX5_141 dX5_leg_52 rfl hT rfl) ?_
            refine ex_of (fun _ _ => ev_bipush (pc' := 57) (iI (6)) dX5_leg_55 rfl (by decide)) ?_
            refine ex_icmpI_lt (pc' := 60) (tgt := 63) dX5_leg_57 (by decide) rfl (by omega) (by omega) (fun c57 => ?_) (fun c57 => ?_)
            · refine ex_of (fun _ _ => ev_iload (pc' := 65) dX5_leg_63 rfl rfl) ?_
              refine ex_of (fun _ _ => ev_aload (pc' := 67) dX5_leg_65 rfl rfl) ?_
              refine ex_of (fun _ _ => ev_callV0 (pc' := 70) kX5_144 mX3_lastEnd dX5_leg_67 rfl rfl (Nat.le_of_ble_eq_true rfl) (Nat.le_of_ble_eq_true rfl) (by decide) rfl hT (e3_lastEnd hCT hM)) ?_
              refine ex_icmpI_ge (pc' := 73) (tgt := 76) dX5_leg_70 (by decide) rfl (by omega) (by split; (have := t4 (A 0 (143 + 45 * k + 3) - 1) (by omega) (by omega); omega); omega) (fun c70 => ?_) (fun c70 => ?_)
              · have hle : ¬ (0 < A 0 (143 + 45 * k + 3) ∧ f < A 0 (143 + 45 * k + (4 + 4 * (A 0 (143 + 45 * k + 3) - 1) + 2)) + 60 * A 0 (143 + 45 * k + (4 + 4 * (A 0 (143 + 45 * k + 3) - 1) + 3))) := by intro y; rw [if_pos y.1] at c70; omega
                refine ex_of (fun _ _ => ev_aload (pc' := 78) dX5_leg_76 rfl rfl) ?_
                refine ex_of (fun _ _ => ev_iload_n (pc' := 79) dX5_leg_78 rfl rfl) ?_
                refine ex_of (fun _ _ => ev_iload_n (pc' := 80) dX5_leg_79 rfl rfl) ?_
                refine ex_of (fun _ _ => ev_iload (pc' := 82) dX5_leg_80 rfl rfl) ?_
                refine ex_of (fun _ _ => ev_iload (pc' := 84) dX5_leg_82 rfl rfl) ?_
                refine ex_of (fun _ _ => ev_bipush (pc' := 86) (iI (60)) dX5_leg_84 rfl (by decide)) ?_
                refine ex_of (fun _ _ => ev_imulI (pc' := 87) dX5_leg_86 rfl) ?_
                have hO := hT
                obtain ⟨w1, h1, E1, rfl, z1, z2, z3, z4, z5, z6⟩ := e3_addLeg (l := l) (q := q) (b := b) (f := f) (mi := hr * 60) hT hto hfr hen (by omega) be1 (by rw [be2 _ (by omega) (by omega)]; exact hU k hk.1 hk.2 _ (by omega) (by omega)) hb
                refine ex_of (fun _ _ => ev_callV4v (pc' := 90) kX5_147 mX3_addLeg dX5_leg_87 rfl rfl (Nat.le_of_ble_eq_true rfl) (Nat.le_of_ble_eq_true rfl) (by decide) rfl hO E1) ?_
                refine ex_of (fun _ _ => ev_aload (pc' := 92) dX5_leg_90 rfl rfl) ?_
                refine ex_of (fun _ _ => ev_getfield (pc' := 95) fX5_141 dX5_leg_92 rfl z2 rfl) ?_
                exact ex_end (ev_iret dX5_leg_95 rfl) (by
    rw [show lgB (A 0) k q f hr = true by unfold lgB lgV lgO; rw [decide_eq_true (by omega), decide_eq_false (show ¬ A 0 (143 + 45 * k + 3) = 6 by omega), decide_eq_false (show ¬ (0 < A 0 (143 + 45 * k + 3) ∧ _) from hle)]; rfl]
    have hn6 : 0 ≤ A 0 (143 + 45 * k + 3) ∧ A 0 (143 + 45 * k + 3) < 6 := by omega
    have li := fun i hi => lgS_i (S := A 0) (k := k) (q := q) (ea := b) (f := f) (hr := hr) (i := i) hn6 hi
    obtain ⟨-, o2, o3, o4⟩ := bit_add (ea := ea) (n := A 0 (143 + 45 * k + 3)) be1 (by omega) (by rw [be2 _ (by omega) (by omega)]; exact hU k hk.1 hk.2 _ (by omega) (by omega))
    have b0 := be2 (A 0 (143 + 45 * k + 3)) (by omega) (by omega)
    rw [hU k hk.1 hk.2 _ (by omega) (by omega)] at b0
    have c4 : h1[t + 4]? = h[t + 4]? := z6 _ (by omega) (by omega) (by omega) (by omega)
    have c5 : h1[t + 5]? = h[t + 5]? := z6 _ (by omega) (by omega) (by omega) (by omega)
    have hc : CT h1 t (win (lgS (A 0) k q b f hr) k) k := by
      refine ⟨if b = 0 then ea else ea + (2 ^ (A 0 (143 + 45 * k + 3)).toNat : Nat), ⟨by split <;> omega, fun i i1 i2 => ?_⟩, ?_, ⟨_, z3, fun i i1 i2 => ?_⟩, ⟨_, z4, fun i i1 i2 => ?_⟩, ⟨_, z5, fun i i1 i2 => ?_⟩, ⟨ca, c4.trans hca, fun i i1 i2 => ?_⟩, ⟨cb, c5.trans hcb, fun i i1 i2 => ?_⟩⟩
      · show _ = lgS (A 0) k q b f hr (143 + 45 * k + (4 + 4 * i + 1))
        rw [(li i ⟨i1, i2⟩).2.1]
        by_cases y : i = A 0 (143 + 45 * k + 3)
        · rw [if_pos y, y]
          by_cases y2 : b = 0
          · rw [if_pos y2, if_pos y2]; exact b0
          · rw [if_neg y2, if_neg y2]; exact o3
        · rw [if_neg y, ← be2 i i1 i2]
          by_cases y2 : b = 0
          · rw [if_pos y2]
          · rw [if_neg y2]; exact o4 i i1 i2 y
      · rw [z2]
        show _ = some (cTr k (lgS (A 0) k q b f hr (143 + 45 * k + 0)) (lgS (A 0) k q b f hr (143 + 45 * k + 1)) (lgS (A 0) k q b f hr (143 + 45 * k + 2)) (lgS (A 0) k q b f hr (143 + 45 * k + 3)) _ (lgS (A 0) k q b f hr (143 + 45 * k + 28)) (t + 1) (t + 2) (t + 3) (t + 4) (t + 5))
        rw [lgS_o hn6 (by omega), lgS_o hn6 (by omega), lgS_o hn6 (by omega), lgS_3, lgS_o hn6 (by omega)]
      · show upI to _ q i = lgS (A 0) k q b f hr (143 + 45 * k + (4 + 4 * i + 0))
        rw [(li i ⟨i1, i2⟩).1]
        by_cases y : i = A 0 (143 + 45 * k + 3)
        · rw [if_pos y, y, upI_s]
        · rw [if_neg y, upI_n y, eto i i1 i2]
      · show upI fro _ f i = lgS (A 0) k q b f hr (143 + 45 * k + (4 + 4 * i + 2))
        rw [(li i ⟨i1, i2⟩).2.2.1]
        by_cases y : i = A 0 (143 + 45 * k + 3)
        · rw [if_pos y, y, upI_s]
        · rw [if_neg y, upI_n y, efr i i1 i2]
      · show upI en _ (f + hr * 60) i = lgS (A 0) k q b f hr (143 + 45 * k + (4 + 4 * i + 2)) + 60 * lgS (A 0) k q b f hr (143 + 45 * k + (4 + 4 * i + 3))
        rw [(li i ⟨i1, i2⟩).2.2.1, (li i ⟨i1, i2⟩).2.2.2]
        by_cases y : i = A 0 (143 + 45 * k + 3)
        · rw [if_pos y, if_pos y, y, upI_s]; omega
        · rw [if_neg y, if_neg y, upI_n y, een i i1 i2]
      · show ca i = lgS (A 0) k q b f hr (143 + 45 * k + (29 + 2 * i))
        rw [lgS_o hn6 (by omega), eca i i1 i2]
      · show cb i = lgS (A 0) k q b f hr (143 + 45 * k + (30 + 2 * i))
        rw [lgS_o hn6 (by omega), ecb i i1 i2]
    have K := x.trv hk ht z1 (fun j hj => z6 j (by omega) (by omega) (by omega) (by omega)) hc (fun p hp => lgS_o hn6 (by omega)) hI
    exact ⟨rfl, K.2, F, F2, w, K.1⟩)
              · have hle : 0 < A 0 (143 + 45 * k + 3) ∧ f < A 0 (143 + 45 * k + (4 + 4 * (A 0 (143 + 45 * k + 3) - 1) + 2)) + 60 * A 0 (143 + 45 * k + (4 + 4 * (A 0 (143 + 45 * k + 3) - 1) + 3)) := by split at c70 <;> omega
                refine ex_of (fun _ _ => ev_bipush (pc' := 75) (iI (-3)) dX5_leg_73 rfl (by decide)) ?_
                exact ex_end (ev_iret dX5_leg_75 rfl) (by rw [show lgB (A 0) k q f hr = false by unfold lgB lgV lgO; rw [decide_eq_true (show 0 < A 0 (143 + 45 * k + 3) ∧ _ from hle)]; simp, show lgE (A 0) k q f hr = -3 by unfold lgE lgV; rw [decide_eq_true (by omega), if_pos rfl, if_neg (by omega)]]; exact x.same)
            · refine ex_of (fun _ _ => ev_bipush (pc' := 62) (iI (-2)) dX5_leg_60 rfl (by decide)) ?_
              exact ex_end (ev_iret dX5_leg_62 rfl) (by rw [show lgB (A 0) k q f hr = false by unfold lgB lgV lgO; rw [decide_eq_true (show A 0 (143 + 45 * k + 3) = 6 by omega)]; simp, show lgE (A 0) k q f hr = -2 by unfold lgE lgV; rw [decide_eq_true (by omega), if_pos rfl, if_pos (by omega)]]; exact x.same)
          · refine ex_of (fun _ _ => ev_iconst (pc' := 49) (iI (-1)) dX5_leg_48 rfl (by decide)) ?_
            exact ex_end (ev_iret dX5_leg_49 rfl) (by rw [show lgB (A 0) k q f hr = false by unfold lgB lgV lgO; rw [decide_eq_false (by omega)]; rfl, show lgE (A 0) k q f hr = -1 by unfold lgE lgV; rw [decide_eq_false (by omega)]; rfl]; exact x.same)
  · skip
    refine ex_of (fun _ _ => ev_aload_n (pc' := 1) dX5_leg_0 rfl rfl) ?_
    refine ex_of (fun _ _ => ev_getfield (pc' := 4) fX5_12 dX5_leg_1 rfl hX0 rfl) ?_
    refine ex_of (fun _ _ => ev_iload_n (pc' := 5) dX5_leg_4 rfl rfl) ?_
    refine ex_of (fun _ _ => ev_callV1 (pc' := 8) kX5_137 mX4_travellerOf dX5_leg_5 rfl rfl (Nat.le_of_ble_eq_true rfl) (Nat.le_of_ble_eq_true rfl) (by decide) rfl hW (e4_travellerOf0 hN hI (by omega) hk)) ?_
    refine ex_of (fun _ _ => ev_astore_6N (pc' := 10) dX5_leg_8 rfl (by decide) rfl) ?_
    refine ex_of (fun _ _ => ev_aloadN (pc' := 12) dX5_leg_10 rfl rfl) ?_
    refine ex_of (fun _ _ => ev_ifnullN (tgt := 48) dX5_leg_12 (by decide)) ?_
    refine ex_of (fun _ _ => ev_iconst (pc' := 49) (iI (-1)) dX5_leg_48 rfl (by decide)) ?_
    exact ex_end (ev_iret dX5_leg_49 rfl) (by rw [show lgB (A 0) k q f hr = false by unfold lgB lgV lgO; rw [decide_eq_false (by omega)]; rfl, show lgE (A 0) k q f hr = -1 by unfold lgE lgV; rw [decide_eq_false (by omega)]; rfl]; exact x.same)
end CT1
