theorem xr32 (x y : Int32) : 0 ≤ x ^^^ y ↔ (0 ≤ x.toInt ↔ 0 ≤ y.toInt) := by
  have key : ∀ z : Int32, 0 ≤ z.toInt ↔ z.toBitVec.msb = false := fun z => by
    have h1 : z.toInt = z.toBitVec.toInt := rfl
    rw [h1, BitVec.msb_eq_toInt]
    simp
  rw [Int32.le_iff_toInt_le, show (0 : Int32).toInt = 0 from rfl, key, key, key, Int32.toBitVec_xor, BitVec.msb_xor]
  cases x.toBitVec.msb <;> cases y.toBitVec.msb <;> simp
theorem xr64 (x y : Int64) : 0 ≤ (x ^^^ y).toInt ↔ (0 ≤ x.toInt ↔ 0 ≤ y.toInt) := by
  have key : ∀ z : Int64, 0 ≤ z.toInt ↔ z.toBitVec.msb = false := fun z => by
    have h1 : z.toInt = z.toBitVec.toInt := rfl
    rw [h1, BitVec.msb_eq_toInt]
    simp
  rw [key, key, key, Int64.toBitVec_xor, BitVec.msb_xor]
  cases x.toBitVec.msb <;> cases y.toBitVec.msb <;> simp
theorem fd_neg {a b : Int} (ha : a < 0) (hb : 0 < b) : (a.tdiv b * b = a → a.tdiv b = a / b) ∧ (¬ a.tdiv b * b = a → a.tdiv b - 1 = a / b) := by
  have h1 : a.tdiv b = a / b + if 0 ≤ a ∨ b ∣ a then 0 else b.sign := Int.tdiv_eq_ediv
  have hs : b.sign = 1 := Int.sign_eq_one_of_pos hb
  by_cases hd : b ∣ a
  · rw [if_pos (Or.inr hd)] at h1
    refine ⟨fun _ => by omega, fun hn => absurd ?_ hn⟩
    rw [h1, Int.add_zero, Int.mul_comm]
    exact Int.mul_ediv_cancel' hd
  · rw [if_neg (by rintro (q | q); omega; exact hd q), hs] at h1
    refine ⟨fun hq => absurd ⟨a.tdiv b, by rw [Int.mul_comm]; exact hq.symm⟩ hd, fun _ => by omega⟩
theorem fd_pos {a b : Int} (ha : 0 ≤ a) : a.tdiv b = a / b := Int.tdiv_eq_ediv_of_nonneg ha
theorem fm_neg {a b : Int} (ha : a < 0) (hb : 0 < b) : (a.tmod b = 0 → a.tmod b = a % b) ∧ (¬ a.tmod b = 0 → a.tmod b + b = a % b) := by
  have h1 : a.tmod b = a % b - ((if 0 ≤ a ∨ b ∣ a then 0 else b.natAbs : Nat) : Int) := Int.tmod_eq_emod
  have hs : (b.natAbs : Int) = b := by omega
  by_cases hd : b ∣ a
  · rw [if_pos (Or.inr hd)] at h1
    have h0 : a % b = 0 := Int.emod_eq_zero_of_dvd hd
    exact ⟨fun _ => by omega, fun hn => absurd (by omega) hn⟩
  · rw [if_neg (by rintro (q | q); omega; exact hd q), hs] at h1
    have h0 := Int.emod_lt_of_pos a hb
    exact ⟨fun hq => by omega, fun _ => by omega⟩
theorem fm_pos {a b : Int} (ha : 0 ≤ a) : a.tmod b = a % b := Int.tmod_eq_emod_of_nonneg ha
section MA
variable {l : Launch} {h : ev_H}
theorem rg_td {a b : Int} (ra : -2147483648 < a ∧ a < 2147483648) (rb : 0 < b) : -2147483648 < a.tdiv b ∧ a.tdiv b < 2147483648 := by
  have h1 := Int.natAbs_tdiv_le_natAbs a b
  omega
theorem rg_tm {a b : Int} (ra : -2147483648 < a ∧ a < 2147483648) (rb : 0 < b ∧ b < 2147483648) : -2147483648 ≤ a.tdiv b * b ∧ a.tdiv b * b < 2147483648 := by
  have h1 : a.tdiv b * b + a.tmod b = a := by rw [Int.mul_comm]; exact Int.mul_tdiv_add_tmod a b
  have h2 : (a.tmod b).natAbs ≤ a.natAbs := by rw [Int.natAbs_tmod]; exact Nat.mod_le _ _
  rcases Int.le_total 0 a with q | q
  · have h3 : 0 ≤ a.tmod b := Int.tmod_nonneg b q
    omega
  · have h3 : (-a).tmod b = - a.tmod b := Int.neg_tmod a b
    have h4 : 0 ≤ (-a).tmod b := Int.tmod_nonneg b (by omega)
    omega
theorem rg_tmm {a b : Int} (rb : 0 < b) : -b < a.tmod b ∧ a.tmod b < b := by
  rcases Int.le_total 0 a with q | q
  · have h3 : 0 ≤ a.tmod b := Int.tmod_nonneg b q
    have h5 : a.tmod b < b := Int.tmod_lt_of_pos a rb
    omega
  · have h3 : (-a).tmod b = - a.tmod b := Int.neg_tmod a b
    have h4 : 0 ≤ (-a).tmod b := Int.tmod_nonneg b (by omega)
    have h5 : (-a).tmod b < b := Int.tmod_lt_of_pos (-a) rb
    omega
theorem e_fdI {a b : Int} (ra : -2147483648 < a ∧ a < 2147483648) (rb : 0 < b ∧ b < 2147483648) : Ev l 0 yJ9_floorDiv_7cf53.cls yJ9_floorDiv_7cf53.name cJ9_floorDiv_7cf53 3 (some .int) 0 [some (.int (iI a)), some (.int (iI b)), none] [] h (some (.int (iI (a / b)))) h := by
  have r1 := rg_td ra rb.1
  have r2 := rg_tm ra rb
  refine ev_iload_n dJ9_floorDiv_7cf53_0 rfl rfl ?_
  refine ev_iload_n dJ9_floorDiv_7cf53_1 rfl rfl ?_
  refine ev_idivI dJ9_floorDiv_7cf53_2 rfl (by omega) (by omega) (by omega) ?_
  refine ev_istore_2 dJ9_floorDiv_7cf53_3 rfl (by decide) rfl ?_
  refine ev_iload_n dJ9_floorDiv_7cf53_4 rfl rfl ?_
  refine ev_iload_n dJ9_floorDiv_7cf53_5 rfl rfl ?_
  refine ev_ixor dJ9_floorDiv_7cf53_6 rfl ?_
  refine ev_if_ge (tgt := 21) dJ9_floorDiv_7cf53_7 (by decide) rfl (fun c7 => ?_) (fun c7 => ?_)
  · have q7 : 0 ≤ a := by
      have := (xr32 _ _).mp c7
      rw [iI_toInt ⟨by omega, by omega⟩, iI_toInt ⟨by omega, by omega⟩] at this
      omega
    refine ev_iload_n dJ9_floorDiv_7cf53_21 rfl rfl ?_
    exact ev_ireI dJ9_floorDiv_7cf53_22 (by first | exact fd_pos q7 | exact (fd_neg q7 rb.1).1 c14)
  · have q7 : a < 0 := by
      have h9 := mt (xr32 _ _).mpr c7
      rw [iI_toInt ⟨by omega, by omega⟩, iI_toInt ⟨by omega, by omega⟩] at h9
      omega
    refine ev_iload_n dJ9_floorDiv_7cf53_10 rfl rfl ?_
    refine ev_iload_n dJ9_floorDiv_7cf53_11 rfl rfl ?_
    refine ev_imulI dJ9_floorDiv_7cf53_12 rfl ?_
    refine ev_iload_n dJ9_floorDiv_7cf53_13 rfl rfl ?_
    refine ev_icmpI_eq (tgt := 21) dJ9_floorDiv_7cf53_14 (by decide) rfl (by omega) (by omega) (fun c14 => ?_) (fun c14 => ?_)
    · refine ev_iload_n dJ9_floorDiv_7cf53_21 rfl rfl ?_
      exact ev_ireI dJ9_floorDiv_7cf53_22 (by first | exact fd_pos q7 | exact (fd_neg q7 rb.1).1 c14)
    · refine ev_iload_n dJ9_floorDiv_7cf53_17 rfl rfl ?_
      refine ev_iconst (iI (1)) dJ9_floorDiv_7cf53_18 rfl (by decide) ?_
      refine ev_isubI dJ9_floorDiv_7cf53_19 rfl ?_
      exact ev_ireI dJ9_floorDiv_7cf53_20 ((fd_neg q7 rb.1).2 c14)
theorem e_fmI {a b : Int} (ra : -2147483648 < a ∧ a < 2147483648) (rb : 0 < b ∧ b < 2147483648) : Ev l 0 yJ9_floorMod_7cf53.cls yJ9_floorMod_7cf53.name cJ9_floorMod_7cf53 3 (some .int) 0 [some (.int (iI a)), some (.int (iI b)), none] [] h (some (.int (iI (a % b)))) h := by
  have r1 := rg_tmm (a := a) rb.1
  refine ev_iload_n dJ9_floorMod_7cf53_0 rfl rfl ?_
  refine ev_iload_n dJ9_floorMod_7cf53_1 rfl rfl ?_
  refine ev_iremI dJ9_floorMod_7cf53_2 rfl (by omega) (by omega) (by omega) ?_
  refine ev_istore_2 dJ9_floorMod_7cf53_3 rfl (by decide) rfl ?_
  refine ev_iload_n dJ9_floorMod_7cf53_4 rfl rfl ?_
  refine ev_iload_n dJ9_floorMod_7cf53_5 rfl rfl ?_
  refine ev_ixor dJ9_floorMod_7cf53_6 rfl ?_
  refine ev_if_ge (tgt := 18) dJ9_floorMod_7cf53_7 (by decide) rfl (fun c7 => ?_) (fun c7 => ?_)
  · have q7 : 0 ≤ a := by
      have := (xr32 _ _).mp c7
      rw [iI_toInt ⟨by omega, by omega⟩, iI_toInt ⟨by omega, by omega⟩] at this
      omega
    refine ev_iload_n dJ9_floorMod_7cf53_18 rfl rfl ?_
    exact ev_ireI dJ9_floorMod_7cf53_19 (by first | exact fm_pos q7 | exact (fm_neg q7 rb.1).1 c11)
  · have q7 : a < 0 := by
      have h9 := mt (xr32 _ _).mpr c7
      rw [iI_toInt ⟨by omega, by omega⟩, iI_toInt ⟨by omega, by omega⟩] at h9
      omega
    refine ev_iload_n dJ9_floorMod_7cf53_10 rfl rfl ?_
    refine ev_ifI_eq (tgt := 18) dJ9_floorMod_7cf53_11 (by decide) rfl (by omega) (fun c11 => ?_) (fun c11 => ?_)
    · refine ev_iload_n dJ9_floorMod_7cf53_18 rfl rfl ?_
      exact ev_ireI dJ9_floorMod_7cf53_19 (by first | exact fm_pos q7 | exact (fm_neg q7 rb.1).1 c11)
    · refine ev_iload_n dJ9_floorMod_7cf53_14 rfl rfl ?_
      refine ev_iload_n dJ9_floorMod_7cf53_15 rfl rfl ?_
      refine ev_iaddI dJ9_floorMod_7cf53_16 rfl ?_
      exact ev_ireI dJ9_floorMod_7cf53_17 ((fm_neg q7 rb.1).2 c11)
theorem jJ_of (x : Int64) : jJ x.toInt = x := Int64.ofInt_toInt x
theorem jJ_rng (x : Int64) : -9223372036854775808 ≤ x.toInt ∧ x.toInt < 9223372036854775808 := ⟨by have := x.le_toInt; simpa using this, by have := x.toInt_lt; simpa using this⟩
theorem rg_tdJ {a b : Int} (ra : -9223372036854775808 < a ∧ a < 9223372036854775808) (rb : 0 < b) : -9223372036854775808 < a.tdiv b ∧ a.tdiv b < 9223372036854775808 := by
  have h1 := Int.natAbs_tdiv_le_natAbs a b
  omega
theorem rg_tmJ {a b : Int} (ra : -9223372036854775808 < a ∧ a < 9223372036854775808) (rb : 0 < b) : -9223372036854775808 ≤ a.tdiv b * b ∧ a.tdiv b * b < 9223372036854775808 := by
  have h1 : a.tdiv b * b + a.tmod b = a := by rw [Int.mul_comm]; exact Int.mul_tdiv_add_tmod a b
  have h2 : (a.tmod b).natAbs ≤ a.natAbs := by rw [Int.natAbs_tmod]; exact Nat.mod_le _ _
  rcases Int.le_total 0 a with q | q
  · have h3 : 0 ≤ a.tmod b := Int.tmod_nonneg b q
    omega
  · have h3 : (-a).tmod b = - a.tmod b := Int.neg_tmod a b
    have h4 : 0 ≤ (-a).tmod b := Int.tmod_nonneg b (by omega)
    omega
theorem e_fdJ {a b : Int} (ra : -9223372036854775808 < a ∧ a < 9223372036854775808) (rb : 0 < b ∧ b < 9223372036854775808) : Ev l 0 yJ9_floorDiv_f86c9.cls yJ9_floorDiv_f86c9.name cJ9_floorDiv_f86c9 6 (some .long) 0 [some (.long (jJ a)), none, some (.long (jJ b)), none, none, none] [] h (some (.long (jJ (a / b)))) h := by
  have r1 := rg_tdJ ra rb.1
  have r2 := rg_tmJ ra rb.1
  refine ev_lload_n dJ9_floorDiv_f86c9_0 rfl rfl ?_
  refine ev_lload_n dJ9_floorDiv_f86c9_1 rfl rfl ?_
  refine ev_ldivI dJ9_floorDiv_f86c9_2 rfl (by omega) (by omega) (by omega) ?_
  refine ev_lstore_4 dJ9_floorDiv_f86c9_3 rfl (by decide) rfl ?_
  refine ev_lload_n dJ9_floorDiv_f86c9_5 rfl rfl ?_
  refine ev_lload_n dJ9_floorDiv_f86c9_6 rfl rfl ?_
  refine ev_lxor dJ9_floorDiv_f86c9_7 rfl ?_
  refine ev_lconst (jJ (0)) dJ9_floorDiv_f86c9_8 rfl (by decide) ?_
  rw [← jJ_of (jJ a ^^^ jJ b)]
  have rx := jJ_rng (jJ a ^^^ jJ b)
  refine ev_lcmpI_ge (tgt := 27) dJ9_floorDiv_f86c9_9 dJ9_floorDiv_f86c9_10 (by decide) rfl (by omega) (by omega) (fun c9 => ?_) (fun c9 => ?_)
  · have q7 : 0 ≤ a := by
      have := (xr64 _ _).mp c9
      rw [jJ_toInt ⟨by omega, by omega⟩, jJ_toInt ⟨by omega, by omega⟩] at this
      omega
    refine ev_lload dJ9_floorDiv_f86c9_27 rfl rfl ?_
    exact ev_lreI dJ9_floorDiv_f86c9_29 (by first | exact fd_pos q7 | exact (fd_neg q7 rb.1).1 c18)
  · have q7 : a < 0 := by
      have h9 := mt (xr64 _ _).mpr c9
      rw [jJ_toInt ⟨by omega, by omega⟩, jJ_toInt ⟨by omega, by omega⟩] at h9
      omega
    refine ev_lload dJ9_floorDiv_f86c9_13 rfl rfl ?_
    refine ev_lload_n dJ9_floorDiv_f86c9_15 rfl rfl ?_
    refine ev_lmulI dJ9_floorDiv_f86c9_16 rfl ?_
    refine ev_lload_n dJ9_floorDiv_f86c9_17 rfl rfl ?_
    refine ev_lcmpI_eq (tgt := 27) dJ9_floorDiv_f86c9_18 dJ9_floorDiv_f86c9_19 (by decide) rfl (by omega) (by omega) (fun c18 => ?_) (fun c18 => ?_)
    · refine ev_lload dJ9_floorDiv_f86c9_27 rfl rfl ?_
      exact ev_lreI dJ9_floorDiv_f86c9_29 (by first | exact fd_pos q7 | exact (fd_neg q7 rb.1).1 c18)
    · refine ev_lload dJ9_floorDiv_f86c9_22 rfl rfl ?_
      refine ev_lconst (jJ (1)) dJ9_floorDiv_f86c9_24 rfl (by decide) ?_
      refine ev_lsubI dJ9_floorDiv_f86c9_25 rfl ?_
      exact ev_lreI dJ9_floorDiv_f86c9_26 ((fd_neg q7 rb.1).2 c18)
theorem e_fmJ {a b : Int} (ra : -9223372036854775808 < a ∧ a < 9223372036854775808) (rb : 0 < b ∧ b < 9223372036854775808) : Ev l 0 yJ9_floorMod_f86c9.cls yJ9_floorMod_f86c9.name cJ9_floorMod_f86c9 6 (some .long) 0 [some (.long (jJ a)), none, some (.long (jJ b)), none, none, none] [] h (some (.long (jJ (a % b)))) h := by
  have r1 := rg_tmm (a := a) rb.1
  refine ev_lload_n dJ9_floorMod_f86c9_0 rfl rfl ?_
  refine ev_lload_n dJ9_floorMod_f86c9_1 rfl rfl ?_
  refine ev_lremI dJ9_floorMod_f86c9_2 rfl (by omega) (by omega) (by omega) ?_
  refine ev_lstore_4 dJ9_floorMod_f86c9_3 rfl (by decide) rfl ?_
  refine ev_lload_n dJ9_floorMod_f86c9_5 rfl rfl ?_
  refine ev_lload_n dJ9_floorMod_f86c9_6 rfl rfl ?_
  refine ev_lxor dJ9_floorMod_f86c9_7 rfl ?_
  refine ev_lconst (jJ (0)) dJ9_floorMod_f86c9_8 rfl (by decide) ?_
  rw [← jJ_of (jJ a ^^^ jJ b)]
  have rx := jJ_rng (jJ a ^^^ jJ b)
  refine ev_lcmpI_ge (tgt := 25) dJ9_floorMod_f86c9_9 dJ9_floorMod_f86c9_10 (by decide) rfl (by omega) (by omega) (fun c9 => ?_) (fun c9 => ?_)
  · have q7 : 0 ≤ a := by
      have := (xr64 _ _).mp c9
      rw [jJ_toInt ⟨by omega, by omega⟩, jJ_toInt ⟨by omega, by omega⟩] at this
      omega
    refine ev_lload dJ9_floorMod_f86c9_25 rfl rfl ?_
    exact ev_lreI dJ9_floorMod_f86c9_27 (by first | exact fm_pos q7 | exact (fm_neg q7 rb.1).1 c16)
  · have q7 : a < 0 := by
      have h9 := mt (xr64 _ _).mpr c9
      rw [jJ_toInt ⟨by omega, by omega⟩, jJ_toInt ⟨by omega, by omega⟩] at h9
      omega
    refine ev_lload dJ9_floorMod_f86c9_13 rfl rfl ?_
    refine ev_lconst (jJ (0)) dJ9_floorMod_f86c9_15 rfl (by decide) ?_
    refine ev_lcmpI_eq (tgt := 25) dJ9_floorMod_f86c9_16 dJ9_floorMod_f86c9_17 (by decide) rfl (by omega) (by omega) (fun c16 => ?_) (fun c16 => ?_)
    · refine ev_lload dJ9_floorMod_f86c9_25 rfl rfl ?_
      exact ev_lreI dJ9_floorMod_f86c9_27 (by first | exact fm_pos q7 | exact (fm_neg q7 rb.1).1 c16)
    · refine ev_lload dJ9_floorMod_f86c9_20 rfl rfl ?_
      refine ev_lload_n dJ9_floorMod_f86c9_22 rfl rfl ?_
      refine ev_laddI dJ9_floorMod_f86c9_23 rfl ?_
      exact ev_lreI dJ9_floorMod_f86c9_24 ((fm_neg q7 rb.1).2 c16)
theorem e_min {a b : Int} (ra : -2147483648 ≤ a ∧ a < 2147483648) (rb : -2147483648 ≤ b ∧ b < 2147483648) : Ev l 0 yJ9_min_7cf53.cls yJ9_min_7cf53.name cJ9_min_7cf53 2 (some .int) 0 [some (.int (iI a)), some (.int (iI b))] [] h (some (.int (iI (min a b)))) h := by
  refine ev_iload_n dJ9_min_7cf53_0 rfl rfl ?_
  refine ev_iload_n dJ9_min_7cf53_1 rfl rfl ?_
  refine ev_icmpI_gt (tgt := 9) dJ9_min_7cf53_2 (by decide) rfl (by omega) (by omega) (fun c2 => ?_) (fun c2 => ?_)
  · refine ev_iload_n dJ9_min_7cf53_9 rfl rfl ?_
    exact ev_ireI dJ9_min_7cf53_10 (by omega)
  · refine ev_iload_n dJ9_min_7cf53_5 rfl rfl ?_
    refine ev_goto (tgt := 10) dJ9_min_7cf53_6 (by decide) ?_
    exact ev_ireI dJ9_min_7cf53_10 (by omega)
end MA
