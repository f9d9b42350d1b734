section MW1
variable {l : Launch} {A : Nat → Int → Int} {h : ev_H} {o : Nat → Int}
/-! what a statement tells: its letter c, its sign g, its numbers; R the world so far -/
def cmK (c v0 v1 v2 : Int) (R : Int → Int) : Bool := if c = 108 then decide (v0 < 360) else if c = 112 then decide (R 0 ≠ 10 ∧ v0 ≤ 359 ∧ v1 ≤ 2) else decide (v0 < R 0 ∧ v1 < R 0 ∧ v0 ≠ v1 ∧ v2 ≤ 99)
def cmS (c g v0 v1 v2 : Int) (R : Int → Int) : Int → Int := if c = 108 then upI R 2 v0 else if c = 112 then upI (upI (upI (upI (upI R (3 + 4 * R 0) v0) (3 + 4 * R 0 + 1) v1) (3 + 4 * R 0 + 2) g) (3 + 4 * R 0 + 3) v2) 0 (R 0 + 1) else upI (upI R (43 + 10 * v0 + v1) v2) (43 + 10 * v1 + v0) v2
theorem upA_109 (A : Nat → Int → Int) (S : Int → Int) : upA A 10 S 9 = A 9 := rfl
theorem e6_comes {c : Int} (hw : MW h o A) (hR : 0 ≤ A 10 0 ∧ A 10 0 ≤ 10) (g0 : 0 ≤ A 9 0 ∧ A 9 0 ≤ 999) (g12 : c ≠ 108 → (0 ≤ A 9 1 ∧ A 9 1 ≤ 999) ∧ (0 ≤ A 9 2 ∧ A 9 2 ≤ 999)) (rc : -2147483648 ≤ c ∧ c < 2147483648) : Ex l 0 yX6_comes.cls yX6_comes.name cX6_comes 4 (some .boolean) 0 [some (.ref 34), some (.int (iI c)), none, none] [] h (fun v h2 => v = some (.int (b2i (cmK c (A 9 0) (A 9 1) (A 9 2) (A 10)))) ∧ ∃ R2, MW h2 o (upA A 10 R2) ∧ FrM h h2 ∧ (cmK c (A 9 0) (A 9 1) (A 9 2) (A 10) = true → R2 = cmS c (o 16) (A 9 0) (A 9 1) (A 9 2) (A 10))) := by
  have fr := FrM.rf h
  refine ex_of (fun _ _ => ev_iload_n (pc' := 1) dX6_comes_0 rfl rfl) ?_
  refine ex_of (fun _ _ => ev_bipush (pc' := 3) (iI (108)) dX6_comes_1 rfl (by decide)) ?_
  refine ex_icmpI_ne (pc' := 6) (tgt := 36) dX6_comes_3 (by decide) rfl (by omega) (by omega) (fun c3 => ?_) (fun c3 => ?_)
  · have g12 := g12 (by omega)
    refine ex_of (fun _ _ => ev_iload_n (pc' := 37) dX6_comes_36 rfl rfl) ?_
    refine ex_of (fun _ _ => ev_bipush (pc' := 39) (iI (112)) dX6_comes_37 rfl (by decide)) ?_
    refine ex_icmpI_ne (pc' := 42) (tgt := 152) dX6_comes_39 (by decide) rfl (by omega) (by omega) (fun c39 => ?_) (fun c39 => ?_)
    · refine ex_of (fun _ _ => ev_aload_n (pc' := 153) dX6_comes_152 rfl rfl) ?_
      refine ex_of (fun _ _ => ev_getfield (pc' := 156) fX6_38 dX6_comes_153 rfl hw.o rfl) ?_
      refine ex_of (fun _ _ => ev_iconst (pc' := 157) (iI (0)) dX6_comes_156 rfl (by decide)) ?_
      refine ex_of (fun _ _ => ev_ialoadI (pc' := 158) dX6_comes_157 rfl hw.a9 (by decide) (by omega)) ?_
      refine ex_of (fun _ _ => ev_istore_2 (pc' := 159) dX6_comes_158 rfl (by decide) rfl) ?_
      refine ex_of (fun _ _ => ev_aload_n (pc' := 160) dX6_comes_159 rfl rfl) ?_
      refine ex_of (fun _ _ => ev_getfield (pc' := 163) fX6_38 dX6_comes_160 rfl hw.o rfl) ?_
      refine ex_of (fun _ _ => ev_iconst (pc' := 164) (iI (1)) dX6_comes_163 rfl (by decide)) ?_
      refine ex_of (fun _ _ => ev_ialoadI (pc' := 165) dX6_comes_164 rfl hw.a9 (by decide) (by omega)) ?_
      refine ex_of (fun _ _ => ev_istore_3 (pc' := 166) dX6_comes_165 rfl (by decide) rfl) ?_
      refine ex_of (fun _ _ => ev_iload_n (pc' := 167) dX6_comes_166 rfl rfl) ?_
      refine ex_of (fun _ _ => ev_aload_n (pc' := 168) dX6_comes_167 rfl rfl) ?_
      refine ex_of (fun _ _ => ev_getfield (pc' := 171) fX6_41 dX6_comes_168 rfl hw.o rfl) ?_
      refine ex_of (fun _ _ => ev_iconst (pc' := 172) (iI (0)) dX6_comes_171 rfl (by decide)) ?_
      refine ex_of (fun _ _ => ev_ialoadI (pc' := 173) dX6_comes_172 rfl hw.a10 (by decide) (by omega)) ?_
      refine ex_icmpI_ge (pc' := 176) (tgt := 202) dX6_comes_173 (by decide) rfl (by omega) (by omega) (fun c173 => ?_) (fun c173 => ?_)
      · refine ex_of (fun _ _ => ev_iconst (pc' := 203) (iI (0)) dX6_comes_202 rfl (by decide)) ?_
        exact ex_end (ev_iret dX6_comes_203 rfl) (by rw [← upA_id A 10] at hw; exact ⟨by unfold cmK; (repeat (first | rw [if_pos (by omega)] | rw [if_neg (by omega)])); first | (rw [decide_eq_true (by omega)]; rfl) | (rw [decide_eq_false (by omega)]; rfl), _, hw, fr, fun q => absurd q (by unfold cmK; (repeat (first | rw [if_pos (by omega)] | rw [if_neg (by omega)])); rw [decide_eq_false (by omega)]; decide)⟩)
      · refine ex_of (fun _ _ => ev_iload_n (pc' := 177) dX6_comes_176 rfl rfl) ?_
        refine ex_of (fun _ _ => ev_aload_n (pc' := 178) dX6_comes_177 rfl rfl) ?_
        refine ex_of (fun _ _ => ev_getfield (pc' := 181) fX6_41 dX6_comes_178 rfl hw.o rfl) ?_
        refine ex_of (fun _ _ => ev_iconst (pc' := 182) (iI (0)) dX6_comes_181 rfl (by decide)) ?_
        refine ex_of (fun _ _ => ev_ialoadI (pc' := 183) dX6_comes_182 rfl hw.a10 (by decide) (by omega)) ?_
        refine ex_icmpI_ge (pc' := 186) (tgt := 202) dX6_comes_183 (by decide) rfl (by omega) (by omega) (fun c183 => ?_) (fun c183 => ?_)
        · refine ex_of (fun _ _ => ev_iconst (pc' := 203) (iI (0)) dX6_comes_202 rfl (by decide)) ?_
          exact ex_end (ev_iret dX6_comes_203 rfl) (by rw [← upA_id A 10] at hw; exact ⟨by unfold cmK; (repeat (first | rw [if_pos (by omega)] | rw [if_neg (by omega)])); first | (rw [decide_eq_true (by omega)]; rfl) | (rw [decide_eq_false (by omega)]; rfl), _, hw, fr, fun q => absurd q (by unfold cmK; (repeat (first | rw [if_pos (by omega)] | rw [if_neg (by omega)])); rw [decide_eq_false (by omega)]; decide)⟩)
        · refine ex_of (fun _ _ => ev_iload_n (pc' := 187) dX6_comes_186 rfl rfl) ?_
          refine ex_of (fun _ _ => ev_iload_n (pc' := 188) dX6_comes_187 rfl rfl) ?_
          refine ex_icmpI_eq (pc' := 191) (tgt := 202) dX6_comes_188 (by decide) rfl (by omega) (by omega) (fun c188 => ?_) (fun c188 => ?_)
          · refine ex_of (fun _ _ => ev_iconst (pc' := 203) (iI (0)) dX6_comes_202 rfl (by decide)) ?_
            exact ex_end (ev_iret dX6_comes_203 rfl) (by rw [← upA_id A 10] at hw; exact ⟨by unfold cmK; (repeat (first | rw [if_pos (by omega)] | rw [if_neg (by omega)])); first | (rw [decide_eq_true (by omega)]; rfl) | (rw [decide_eq_false (by omega)]; rfl), _, hw, fr, fun q => absurd q (by unfold cmK; (repeat (first | rw [if_pos (by omega)] | rw [if_neg (by omega)])); rw [decide_eq_false (by omega)]; decide)⟩)
          · refine ex_of (fun _ _ => ev_aload_n (pc' := 192) dX6_comes_191 rfl rfl) ?_
            refine ex_of (fun _ _ => ev_getfield (pc' := 195) fX6_38 dX6_comes_192 rfl hw.o rfl) ?_
            refine ex_of (fun _ _ => ev_iconst (pc' := 196) (iI (2)) dX6_comes_195 rfl (by decide)) ?_
            refine ex_of (fun _ _ => ev_ialoadI (pc' := 197) dX6_comes_196 rfl hw.a9 (by decide) (by omega)) ?_
            refine ex_of (fun _ _ => ev_bipush (pc' := 199) (iI (99)) dX6_comes_197 rfl (by decide)) ?_
            refine ex_icmpI_le (pc' := 202) (tgt := 204) dX6_comes_199 (by decide) rfl (by omega) (by omega) (fun c199 => ?_) (fun c199 => ?_)
            · refine ex_of (fun _ _ => ev_aload_n (pc' := 205) dX6_comes_204 rfl rfl) ?_
              refine ex_of (fun _ _ => ev_getfield (pc' := 208) fX6_41 dX6_comes_205 rfl hw.o rfl) ?_
              refine ex_of (fun _ _ => ev_bipush (pc' := 210) (iI (43)) dX6_comes_208 rfl (by decide)) ?_
              refine ex_of (fun _ _ => ev_bipush (pc' := 212) (iI (10)) dX6_comes_210 rfl (by decide)) ?_
              refine ex_of (fun _ _ => ev_iload_n (pc' := 213) dX6_comes_212 rfl rfl) ?_
              refine ex_of (fun _ _ => ev_imulI (pc' := 214) dX6_comes_213 rfl) ?_
              refine ex_of (fun _ _ => ev_iaddI (pc' := 215) dX6_comes_214 rfl) ?_
              refine ex_of (fun _ _ => ev_iload_n (pc' := 216) dX6_comes_215 rfl rfl) ?_
              refine ex_of (fun _ _ => ev_iaddI (pc' := 217) dX6_comes_216 rfl) ?_
              refine ex_of (fun _ _ => ev_aload_n (pc' := 218) dX6_comes_217 rfl rfl) ?_
              refine ex_of (fun _ _ => ev_getfield (pc' := 221) fX6_38 dX6_comes_218 rfl hw.o rfl) ?_
              refine ex_of (fun _ _ => ev_iconst (pc' := 222) (iI (2)) dX6_comes_221 rfl (by decide)) ?_
              refine ex_of (fun _ _ => ev_ialoadI (pc' := 223) dX6_comes_222 rfl hw.a9 (by decide) (by omega)) ?_
              refine xst_10 (pc' := 224) dX6_comes_223 rfl hw fr (by omega) (fun h hw fr => ?_)
              refine ex_of (fun _ _ => ev_aload_n (pc' := 225) dX6_comes_224 rfl rfl) ?_
              refine ex_of (fun _ _ => ev_getfield (pc' := 228) fX6_41 dX6_comes_225 rfl hw.o rfl) ?_
              refine ex_of (fun _ _ => ev_bipush (pc' := 230) (iI (43)) dX6_comes_228 rfl (by decide)) ?_
              refine ex_of (fun _ _ => ev_bipush (pc' := 232) (iI (10)) dX6_comes_230 rfl (by decide)) ?_
              refine ex_of (fun _ _ => ev_iload_n (pc' := 233) dX6_comes_232 rfl rfl) ?_
              refine ex_of (fun _ _ => ev_imulI (pc' := 234) dX6_comes_233 rfl) ?_
              refine ex_of (fun _ _ => ev_iaddI (pc' := 235) dX6_comes_234 rfl) ?_
              refine ex_of (fun _ _ => ev_iload_n (pc' := 236) dX6_comes_235 rfl rfl) ?_
              refine ex_of (fun _ _ => ev_iaddI (pc' := 237) dX6_comes_236 rfl) ?_
              refine ex_of (fun _ _ => ev_aload_n (pc' := 238) dX6_comes_237 rfl rfl) ?_
              refine ex_of (fun _ _ => ev_getfield (pc' := 241) fX6_38 dX6_comes_238 rfl hw.o rfl) ?_
              refine ex_of (fun _ _ => ev_iconst (pc' := 242) (iI (2)) dX6_comes_241 rfl (by decide)) ?_
              refine ex_of (fun _ _ => ev_ialoadI (pc' := 243) dX6_comes_242 rfl hw.a9 (by decide) (by omega)) ?_
              rw [upA_109]
              refine xst_10 (pc' := 244) dX6_comes_243 rfl hw fr (by omega) (fun h hw fr => ?_)
              rw [upA_s, upA_2] at hw
              refine ex_of (fun _ _ => ev_iconst (pc' := 245) (iI (1)) dX6_comes_244 rfl (by decide)) ?_
              exact ex_end (ev_iret dX6_comes_245 rfl) (⟨by unfold cmK; (repeat (first | rw [if_pos (by omega)] | rw [if_neg (by omega)])); first | (rw [decide_eq_true (by omega)]; rfl) | (rw [decide_eq_false (by omega)]; rfl), _, hw, fr, fun _ => by unfold cmS; (repeat (first | rw [if_pos (by omega)] | rw [if_neg (by omega)]))⟩)
            · refine ex_of (fun _ _ => ev_iconst (pc' := 203) (iI (0)) dX6_comes_202 rfl (by decide)) ?_
              exact ex_end (ev_iret dX6_comes_203 rfl) (by rw [← upA_id A 10] at hw; exact ⟨by unfold cmK; (repeat (first | rw [if_pos (by omega)] | rw [if_neg (by omega)])); first | (rw [decide_eq_true (by omega)]; rfl) | (rw [decide_eq_false (by omega)]; rfl), _, hw, fr, fun q => absurd q (by unfold cmK; (repeat (first | rw [if_pos (by omega)] | rw [if_neg (by omega)])); rw [decide_eq_false (by omega)]; decide)⟩)
    · refine ex_of (fun _ _ => ev_aload_n (pc' := 43) dX6_comes_42 rfl rfl) ?_
      refine ex_of (fun _ _ => ev_getfield (pc' := 46) fX6_41 dX6_comes_43 rfl hw.o rfl) ?_
      refine ex_of (fun _ _ => ev_iconst (pc' := 47) (iI (0)) dX6_comes_46 rfl (by decide)) ?_
      refine ex_of (fun _ _ => ev_ialoadI (pc' := 48) dX6_comes_47 rfl hw.a10 (by decide) (by omega)) ?_
      refine ex_of (fun _ _ => ev_bipush (pc' := 50) (iI (10)) dX6_comes_48 rfl (by decide)) ?_
      refine ex_icmpI_eq (pc' := 53) (tgt := 75) dX6_comes_50 (by decide) rfl (by omega) (by omega) (fun c50 => ?_) (fun c50 => ?_)
      · refine ex_of (fun _ _ => ev_iconst (pc' := 76) (iI (0)) dX6_comes_75 rfl (by decide)) ?_
        exact ex_end (ev_iret dX6_comes_76 rfl) (by rw [← upA_id A 10] at hw; exact ⟨by unfold cmK; (repeat (first | rw [if_pos (by omega)] | rw [if_neg (by omega)])); first | (rw [decide_eq_true (by omega)]; rfl) | (rw [decide_eq_false (by omega)]; rfl), _, hw, fr, fun q => absurd q (by unfold cmK; (repeat (first | rw [if_pos (by omega)] | rw [if_neg (by omega)])); rw [decide_eq_false (by omega)]; decide)⟩)
      · refine ex_of (fun _ _ => ev_aload_n (pc' := 54) dX6_comes_53 rfl rfl) ?_
        refine ex_of (fun _ _ => ev_getfield (pc' := 57) fX6_38 dX6_comes_54 rfl hw.o rfl) ?_
        refine ex_of (fun _ _ => ev_iconst (pc' := 58) (iI (0)) dX6_comes_57 rfl (by decide)) ?_
        refine ex_of (fun _ _ => ev_ialoadI (pc' := 59) dX6_comes_58 rfl hw.a9 (by decide) (by omega)) ?_
        refine ex_of (fun _ _ => ev_sipush (pc' := 62) (iI (359)) dX6_comes_59 rfl (by decide)) ?_
        refine ex_icmpI_gt (pc' := 65) (tgt := 75) dX6_comes_62 (by decide) rfl (by omega) (by omega) (fun c62 => ?_) (fun c62 => ?_)
        · refine ex_of (fun _ _ => ev_iconst (pc' := 76) (iI (0)) dX6_comes_75 rfl (by decide)) ?_
          exact ex_end (ev_iret dX6_comes_76 rfl) (by rw [← upA_id A 10] at hw; exact ⟨by unfold cmK; (repeat (first | rw [if_pos (by omega)] | rw [if_neg (by omega)])); first | (rw [decide_eq_true (by omega)]; rfl) | (rw [decide_eq_false (by omega)]; rfl), _, hw, fr, fun q => absurd q (by unfold cmK; (repeat (first | rw [if_pos (by omega)] | rw [if_neg (by omega)])); rw [decide_eq_false (by omega)]; decide)⟩)
        · refine ex_of (fun _ _ => ev_aload_n (pc' := 66) dX6_comes_65 rfl rfl) ?_
          refine ex_of (fun _ _ => ev_getfield (pc' := 69) fX6_38 dX6_comes_66 rfl hw.o rfl) ?_
          refine ex_of (fun _ _ => ev_iconst (pc' := 70) (iI (1)) dX6_comes_69 rfl (by decide)) ?_
          refine ex_of (fun _ _ => ev_ialoadI (pc' := 71) dX6_comes_70 rfl hw.a9 (by decide) (by omega)) ?_
          refine ex_of (fun _ _ => ev_iconst (pc' := 72) (iI (2)) dX6_comes_71 rfl (by decide)) ?_
          refine ex_icmpI_le (pc' := 75) (tgt := 77) dX6_comes_72 (by decide) rfl (by omega) (by omega) (fun c72 => ?_) (fun c72 => ?_)
          · refine ex_of (fun _ _ => ev_iconst (pc' := 78) (iI (3)) dX6_comes_77 rfl (by decide)) ?_
            refine ex_of (fun _ _ => ev_iconst (pc' := 79) (iI (4)) dX6_comes_78 rfl (by decide)) ?_
            refine ex_of (fun _ _ => ev_aload_n (pc' := 80) dX6_comes_79 rfl rfl) ?_
            refine ex_of (fun _ _ => ev_getfield (pc' := 83) fX6_41 dX6_comes_80 rfl hw.o rfl) ?_
            refine ex_of (fun _ _ => ev_iconst (pc' := 84) (iI (0)) dX6_comes_83 rfl (by decide)) ?_
            refine ex_of (fun _ _ => ev_ialoadI (pc' := 85) dX6_comes_84 rfl hw.a10 (by decide) (by omega)) ?_
            refine ex_of (fun _ _ => ev_imulI (pc' := 86) dX6_comes_85 rfl) ?_
            refine ex_of (fun _ _ => ev_iaddI (pc' := 87) dX6_comes_86 rfl) ?_
            refine ex_of (fun _ _ => ev_istore_2 (pc' := 88) dX6_comes_87 rfl (by decide) rfl) ?_
            refine ex_of (fun _ _ => ev_aload_n (pc' := 89) dX6_comes_88 rfl rfl) ?_
            refine ex_of (fun _ _ => ev_getfield (pc' := 92) fX6_41 dX6_comes_89 rfl hw.o rfl) ?_
            refine ex_of (fun _ _ => ev_iload_n (pc' := 93) dX6_comes_92 rfl rfl) ?_
            refine ex_of (fun _ _ => ev_aload_n (pc' := 94) dX6_comes_93 rfl rfl) ?_
            refine ex_of (fun _ _ => ev_getfield (pc' := 97) fX6_38 dX6_comes_94 rfl hw.o rfl) ?_
            refine ex_of (fun _ _ => ev_iconst (pc' := 98) (iI (0)) dX6_comes_97 rfl (by decide)) ?_
            refine ex_of (fun _ _ => ev_ialoadI (pc' := 99) dX6_comes_98 rfl hw.a9 (by decide) (by omega)) ?_
            refine xst_10 (pc' := 100) dX6_comes_99 rfl hw fr (by omega) (fun h hw fr => ?_)
            refine ex_of (fun _ _ => ev_aload_n (pc' := 101) dX6_comes_100 rfl rfl) ?_
            refine ex_of (fun _ _ => ev_getfield (pc' := 104) fX6_41 dX6_comes_101 rfl hw.o rfl) ?_
            refine ex_of (fun _ _ => ev_iload_n (pc' := 105) dX6_comes_104 rfl rfl) ?_
            refine ex_of (fun _ _ => ev_iconst (pc' := 106) (iI (1)) dX6_comes_105 rfl (by decide)) ?_
            refine ex_of (fun _ _ => ev_iaddI (pc' := 107) dX6_comes_106 rfl) ?_
            refine ex_of (fun _ _ => ev_aload_n (pc' := 108) dX6_comes_107 rfl rfl) ?_
            refine ex_of (fun _ _ => ev_getfield (pc' := 111) fX6_38 dX6_comes_108 rfl hw.o rfl) ?_
            refine ex_of (fun _ _ => ev_iconst (pc' := 112) (iI (1)) dX6_comes_111 rfl (by decide)) ?_
            refine ex_of (fun _ _ => ev_ialoadI (pc' := 113) dX6_comes_112 rfl hw.a9 (by decide) (by omega)) ?_
            rw [upA_109]
            refine xst_10 (pc' := 114) dX6_comes_113 rfl hw fr (by omega) (fun h hw fr => ?_)
            rw [upA_s, upA_2] at hw
            refine ex_of (fun _ _ => ev_aload_n (pc' := 115) dX6_comes_114 rfl rfl) ?_
            refine ex_of (fun _ _ => ev_getfield (pc' := 118) fX6_41 dX6_comes_115 rfl hw.o rfl) ?_
            refine ex_of (fun _ _ => ev_iload_n (pc' := 119) dX6_comes_118 rfl rfl) ?_
            refine ex_of (fun _ _ => ev_iconst (pc' := 120) (iI (2)) dX6_comes_119 rfl (by decide)) ?_
            refine ex_of (fun _ _ => ev_iaddI (pc' := 121) dX6_comes_120 rfl) ?_
            refine ex_of (fun _ _ => ev_aload_n (pc' := 122) dX6_comes_121 rfl rfl) ?_
            refine ex_of (fun _ _ => ev_getfield (pc' := 125) fX6_79 dX6_comes_122 rfl hw.o rfl) ?_
            refine xst_10 (pc' := 126) dX6_comes_125 rfl hw fr (by omega) (fun h hw fr => ?_)
            rw [upA_s, upA_2] at hw
            refine ex_of (fun _ _ => ev_aload_n (pc' := 127) dX6_comes_126 rfl rfl) ?_
            refine ex_of (fun _ _ => ev_getfield (pc' := 130) fX6_41 dX6_comes_127 rfl hw.o rfl) ?_
            refine ex_of (fun _ _ => ev_iload_n (pc' := 131) dX6_comes_130 rfl rfl) ?_
            refine ex_of (fun _ _ => ev_iconst (pc' := 132) (iI (3)) dX6_comes_131 rfl (by decide)) ?_
            refine ex_of (fun _ _ => ev_iaddI (pc' := 133) dX6_comes_132 rfl) ?_
            refine ex_of (fun _ _ => ev_aload_n (pc' := 134) dX6_comes_133 rfl rfl) ?_
            refine ex_of (fun _ _ => ev_getfield (pc' := 137) fX6_38 dX6_comes_134 rfl hw.o rfl) ?_
            refine ex_of (fun _ _ => ev_iconst (pc' := 138) (iI (2)) dX6_comes_137 rfl (by decide)) ?_
            refine ex_of (fun _ _ => ev_ialoadI (pc' := 139) dX6_comes_138 rfl hw.a9 (by decide) (by omega)) ?_
            rw [upA_109]
            refine xst_10 (pc' := 140) dX6_comes_139 rfl hw fr (by omega) (fun h hw fr => ?_)
            rw [upA_s, upA_2] at hw
            refine ex_of (fun _ _ => ev_aload_n (pc' := 141) dX6_comes_140 rfl rfl) ?_
            refine ex_of (fun _ _ => ev_getfield (pc' := 144) fX6_41 dX6_comes_141 rfl hw.o rfl) ?_
            refine ex_of (fun _ _ => ev_iconst (pc' := 145) (iI (0)) dX6_comes_144 rfl (by decide)) ?_
            refine ex_of (fun _ _ => ev_dup2 (pc' := 146) dX6_comes_145 rfl rfl rfl) ?_
            refine ex_of (fun _ _ => ev_ialoadI (pc' := 147) dX6_comes_146 rfl hw.a10 (by decide) (by omega)) ?_
            rw [upA_s, upI_n (by omega), upI_n (by omega), upI_n (by omega), upI_n (by omega)]
            refine ex_of (fun _ _ => ev_iconst (pc' := 148) (iI (1)) dX6_comes_147 rfl (by decide)) ?_
            refine ex_of (fun _ _ => ev_iaddI (pc' := 149) dX6_comes_148 rfl) ?_
            refine xst_10 (pc' := 150) dX6_comes_149 rfl hw fr (by omega) (fun h hw fr => ?_)
            rw [upA_s, upA_2] at hw
            refine ex_of (fun _ _ => ev_iconst (pc' := 151) (iI (1)) dX6_comes_150 rfl (by decide)) ?_
            exact ex_end (ev_iret dX6_comes_151 rfl) (⟨by unfold cmK; (repeat (first | rw [if_pos (by omega)] | rw [if_neg (by omega)])); first | (rw [decide_eq_true (by omega)]; rfl) | (rw [decide_eq_false (by omega)]; rfl), _, hw, fr, fun _ => by unfold cmS; (repeat (first | rw [if_pos (by omega)] | rw [if_neg (by omega)]))⟩)
          · refine ex_of (fun _ _ => ev_iconst (pc' := 76) (iI (0)) dX6_comes_75 rfl (by decide)) ?_
            exact ex_end (ev_iret dX6_comes_76 rfl) (by rw [← upA_id A 10] at hw; exact ⟨by unfold cmK; (repeat (first | rw [if_pos (by omega)] | rw [if_neg (by omega)])); first | (rw [decide_eq_true (by omega)]; rfl) | (rw [decide_eq_false (by omega)]; rfl), _, hw, fr, fun q => absurd q (by unfold cmK; (repeat (first | rw [if_pos (by omega)] | rw [if_neg (by omega)])); rw [decide_eq_false (by omega)]; decide)⟩)
  · skip
    refine ex_of (fun _ _ => ev_aload_n (pc' := 7) dX6_comes_6 rfl rfl) ?_
    refine ex_of (fun _ _ => ev_getfield (pc' := 10) fX6_41 dX6_comes_7 rfl hw.o rfl) ?_
    refine ex_of (fun _ _ => ev_iconst (pc' := 11) (iI (2)) dX6_comes_10 rfl (by decide)) ?_
    refine ex_of (fun _ _ => ev_aload_n (pc' := 12) dX6_comes_11 rfl rfl) ?_
    refine ex_of (fun _ _ => ev_getfield (pc' := 15) fX6_38 dX6_comes_12 rfl hw.o rfl) ?_
    refine ex_of (fun _ _ => ev_iconst (pc' := 16) (iI (0)) dX6_comes_15 rfl (by decide)) ?_
    refine ex_of (fun _ _ => ev_ialoadI (pc' := 17) dX6_comes_16 rfl hw.a9 (by decide) (by omega)) ?_
    refine xst_10 (pc' := 18) dX6_comes_17 rfl hw fr (by omega) (fun h hw fr => ?_)
    refine ex_of (fun _ _ => ev_aload_n (pc' := 19) dX6_comes_18 rfl rfl) ?_
    refine ex_of (fun _ _ => ev_getfield (pc' := 22) fX6_38 dX6_comes_19 rfl hw.o rfl) ?_
    refine ex_of (fun _ _ => ev_iconst (pc' := 23) (iI (0)) dX6_comes_22 rfl (by decide)) ?_
    refine ex_of (fun _ _ => ev_ialoadI (pc' := 24) dX6_comes_23 rfl hw.a9 (by decide) (by omega)) ?_
    refine ex_of (fun _ _ => ev_sipush (pc' := 27) (iI (360)) dX6_comes_24 rfl (by decide)) ?_
    rw [upA_109]
    refine ex_icmpI_ge (pc' := 30) (tgt := 34) dX6_comes_27 (by decide) rfl (by omega) (by omega) (fun c27 => ?_) (fun c27 => ?_)
    · refine ex_of (fun _ _ => ev_iconst (pc' := 35) (iI (0)) dX6_comes_34 rfl (by decide)) ?_
      exact ex_end (ev_iret dX6_comes_35 rfl) (by first | exact ⟨by unfold cmK; (repeat (first | rw [if_pos (by omega)] | rw [if_neg (by omega)])); first | (rw [decide_eq_true (by omega)]; rfl) | (rw [decide_eq_false (by omega)]; rfl), _, hw, fr, fun _ => by unfold cmS; (repeat (first | rw [if_pos (by omega)] | rw [if_neg (by omega)]))⟩ | exact ⟨by unfold cmK; (repeat (first | rw [if_pos (by omega)] | rw [if_neg (by omega)])); first | (rw [decide_eq_true (by omega)]; rfl) | (rw [decide_eq_false (by omega)]; rfl), _, hw, fr, fun q => absurd q (by unfold cmK; rw [if_pos (by omega), decide_eq_false (by omega)]; decide)⟩)
    · refine ex_of (fun _ _ => ev_iconst (pc' := 31) (iI (1)) dX6_comes_30 rfl (by decide)) ?_
      refine ex_of (fun _ _ => ev_goto (tgt := 35) dX6_comes_31 (by decide)) ?_
      exact ex_end (ev_iret dX6_comes_35 rfl) (by first | exact ⟨by unfold cmK; (repeat (first | rw [if_pos (by omega)] | rw [if_neg (by omega)])); first | (rw [decide_eq_true (by omega)]; rfl) | (rw [decide_eq_false (by omega)]; rfl), _, hw, fr, fun _ => by unfold cmS; (repeat (first | rw [if_pos (by omega)] | rw [if_neg (by omega)]))⟩ | exact ⟨by unfold cmK; (repeat (first | rw [if_pos (by omega)] | rw [if_neg (by omega)])); first | (rw [decide_eq_true (by omega)]; rfl) | (rw [decide_eq_false (by omega)]; rfl), _, hw, fr, fun q => absurd q (by unfold cmK; rw [if_pos (by omega), decide_eq_false (by omega)]; decide)⟩)
/-! the whole of a text: how many statements from p on (k are read already), the first fault of form -/
def wF (T : Int → Int) (n : Int) : Nat → Int → Int → Int
  | 0, _, p => -1000 - p
  | c + 1, k, p => if stK T n p = true then (if stP T n p < n then wF T n c (k + 1) (stP T n p) else k + 1) else -1000 - stP T n p
/-- from p to the end there are just k statements -/
def wG (T : Int → Int) (n : Int) : Nat → Int → Prop
  | 0, p => p = n
  | k + 1, p => stOK T n p ∧ wG T n k (stP T n p)
def smK (T : Int → Int) (n p : Int) (R : Int → Int) : Bool := cmK (chr T n p) (rdV T n (p + 1)) (rdV T n (st0 T n p + 1)) (rdV T n (st1 T n p + 1)) R
def smS (T : Int → Int) (n p : Int) (R : Int → Int) : Int → Int := cmS (chr T n p) (stG T n p) (rdV T n (p + 1)) (rdV T n (st0 T n p + 1)) (rdV T n (st1 T n p + 1)) R
def wK (T : Int → Int) (n : Int) : Nat → Int → (Int → Int) → Int × (Int → Int)
  | 0, _, R => (0, R)
  | k + 1, p, R => if smK T n p R = true then wK T n k (stP T n p) (smS T n p R) else (-2000 - p, R)
theorem stP_ok {T : Int → Int} {n p : Int} (h : stOK T n p) : stP T n p = stE T n p + 1 ∧ p + 2 ≤ stE T n p ∧ stE T n p + 1 ≤ n := by
  have hq := h
  obtain ⟨h1, h2, h3, h4⟩ := hq
  have b1 := rd_b h2
  have e1 : rdP T n (p + 1) = st0 T n p := rfl
  have l4 := chr_lt (T := T) (n := n) (p := stE T n p) (by omega)
  have e : stP T n p = stE T n p + 1 := by unfold stP; (repeat (first | rw [if_neg (by omega)])); rw [if_pos h4]
  refine ⟨e, ?_, by omega⟩
  by_cases c : chr T n p = 108
  · have : stE T n p = st0 T n p := by unfold stE; rw [if_pos c]
    omega
  · rcases h3 with h3 | ⟨_, h5, _, h6⟩
    · exact absurd h3 c
    · have b2 := rd_b h5
      have e2 : rdP T n (st0 T n p + 1) = st1 T n p := rfl
      have b3 := rd_b h6
      have e3 : rdP T n (st1 T n p + 1) = st2 T n p := rfl
      unfold stE
      rw [if_neg c]
      split
      · omega
      · omega
/-- the numbers of a statement that is one -/
theorem st_nums {T : Int → Int} {n p : Int} (h : stOK T n p) : (0 ≤ rdV T n (p + 1) ∧ rdV T n (p + 1) ≤ 999) ∧ (chr T n p ≠ 108 → (0 ≤ rdV T n (st0 T n p + 1) ∧ rdV T n (st0 T n p + 1) ≤ 999) ∧ (0 ≤ rdV T n (st1 T n p + 1) ∧ rdV T n (st1 T n p + 1) ≤ 999)) := by
  obtain ⟨h1, h2, h3, h4⟩ := h
  have b1 := rd_b h2
  refine ⟨⟨by omega, by omega⟩, fun c => ?_⟩
  rcases h3 with h3 | ⟨_, h5, _, h6⟩
  · exact absurd h3 c
  · have b2 := rd_b h5
    have b3 := rd_b h6
    exact ⟨⟨by omega, by omega⟩, ⟨by omega, by omega⟩⟩
theorem stP_0 {T : Int → Int} {n p : Int} (hp : 0 ≤ p) : 0 ≤ stP T n p := by
  unfold stP
  split
  · omega
  · split
    · omega
    · rename_i q1 q2
      have b1 := rd_b (T := T) (n := n) (p := p + 1) (by omega)
      have e1 : rdP T n (p + 1) = st0 T n p := rfl
      split
      · omega
      · split
        · omega
        · rename_i q3 q4
          by_cases y : chr T n p = 108
          · have ee : stE T n p = st0 T n p := by unfold stE; rw [if_pos y]
            rw [if_neg (by omega), if_neg (by omega), ee]
            split <;> omega
          · have b2 := rd_b (T := T) (n := n) (p := st0 T n p + 1) (by omega)
            have e2 : rdP T n (st0 T n p + 1) = st1 T n p := rfl
            split
            · omega
            · split
              · omega
              · have b3 := rd_b (T := T) (n := n) (p := st1 T n p + 1) (by omega)
                have e3 : rdP T n (st1 T n p + 1) = st2 T n p := rfl
                have ee : st2 T n p ≤ stE T n p := by unfold stE; rw [if_neg y]; split <;> omega
                split <;> omega
theorem wF_G {T : Int → Int} {n : Int} : ∀ (c : Nat) (k p : Int), 0 ≤ k → 0 ≤ p → 0 ≤ wF T n c k p → ∃ j : Nat, wF T n c k p = k + 1 + j ∧ wG T n (j + 1) p ∧ j < c
  | 0, k, p, hk, hp, h => by unfold wF at h; omega
  | c + 1, k, p, hk, hp, h => by
    unfold wF at h ⊢
    by_cases e : stK T n p = true
    · have ok := stK_iff.mp e
      have b := stP_ok ok
      rw [if_pos e] at h ⊢
      by_cases q : stP T n p < n
      · rw [if_pos q] at h ⊢
        obtain ⟨j, e1, e2, e3⟩ := wF_G c (k + 1) (stP T n p) (by omega) (by omega) h
        exact ⟨j + 1, by omega, ⟨ok, e2⟩, by omega⟩
      · rw [if_neg q]
        exact ⟨0, by omega, ⟨ok, show stP T n p = n by omega⟩, by omega⟩
    · rw [if_neg e] at h
      have := stP_0 (T := T) (n := n) hp
      omega
/-- statements that are as they should be write only where a world has its numbers -/
theorem smS_0 {T : Int → Int} {n p : Int} {R : Int → Int} (ok : stOK T n p) (hk : smK T n p R = true) (hR : 0 ≤ R 0 ∧ R 0 ≤ 10) : 0 ≤ smS T n p R 0 ∧ smS T n p R 0 ≤ 10 := by
  obtain ⟨g0, g12⟩ := st_nums ok
  unfold smK cmK at hk
  unfold smS cmS
  by_cases c1 : chr T n p = 108
  · rw [if_pos c1, upI_n (by omega)]; exact hR
  · have g12 := g12 c1
    rw [if_neg c1] at hk ⊢
    by_cases c2 : chr T n p = 112
    · rw [if_pos c2] at hk ⊢
      have := of_decide_eq_true hk
      rw [upI_s]; omega
    · rw [if_neg c2, upI_n (by omega), upI_n (by omega)]; exact hR
theorem upI_ag {S R : Int → Int} {e z : Int} (h : ∀ x, 0 ≤ x → x < 503 → R x = S x) : ∀ x, 0 ≤ x → x < 503 → upI R e z x = upI S e z x := fun x h1 h2 => by
  unfold upI; split
  · rfl
  · exact h x h1 h2
theorem smS_ag {T : Int → Int} {n p : Int} {R S : Int → Int} (h : ∀ x, 0 ≤ x → x < 503 → R x = S x) : smK T n p R = smK T n p S ∧ ∀ x, 0 ≤ x → x < 503 → smS T n p R x = smS T n p S x := by
  have h0 := h 0 (by decide) (by decide)
  refine ⟨by unfold smK cmK; rw [h0], ?_⟩
  unfold smS cmS
  rw [h0]
  split
  · exact upI_ag h
  · split
    · exact upI_ag (upI_ag (upI_ag (upI_ag (upI_ag h))))
    · exact upI_ag (upI_ag h)
theorem smS_out {T : Int → Int} {n p : Int} {R : Int → Int} (ok : stOK T n p) (hk : smK T n p R = true) (hR : 0 ≤ R 0 ∧ R 0 ≤ 10) : ∀ x, ¬ (0 ≤ x ∧ x < 503) → smS T n p R x = R x := by
  obtain ⟨g0, g12⟩ := st_nums ok
  intro x hx
  unfold smK cmK at hk
  unfold smS cmS
  by_cases c1 : chr T n p = 108
  · rw [if_pos c1, upI_n (by omega)]
  · have g12 := g12 c1
    rw [if_neg c1] at hk ⊢
    by_cases c2 : chr T n p = 112
    · rw [if_pos c2] at hk ⊢
      have := of_decide_eq_true hk
      rw [upI_n (by omega), upI_n (by omega), upI_n (by omega), upI_n (by omega), upI_n (by omega)]
    · rw [if_neg c2] at hk ⊢
      have := of_decide_eq_true hk
      rw [upI_n (by omega), upI_n (by omega)]
theorem wK_ag {T : Int → Int} {n : Int} : ∀ (k : Nat) (p : Int) (R S : Int → Int), (∀ x, 0 ≤ x → x < 503 → R x = S x) → (wK T n k p R).1 = (wK T n k p S).1 ∧ ∀ x, 0 ≤ x → x < 503 → (wK T n k p R).2 x = (wK T n k p S).2 x
  | 0, p, R, S, h => ⟨rfl, h⟩
  | k + 1, p, R, S, h => by
    have a := smS_ag (T := T) (n := n) (p := p) h
    unfold wK
    rw [a.1]
    split
    · exact wK_ag k _ _ _ a.2
    · exact ⟨rfl, h⟩
theorem wK_out {T : Int → Int} {n : Int} : ∀ (k : Nat) (p : Int) (R : Int → Int), wG T n k p → (0 ≤ R 0 ∧ R 0 ≤ 10) → ∀ x, ¬ (0 ≤ x ∧ x < 503) → (wK T n k p R).2 x = R x
  | 0, p, R, _, _, x, hx => rfl
  | k + 1, p, R, g, hR, x, hx => by
    unfold wK
    split
    · rename_i hk
      rw [wK_out k _ _ g.2 (smS_0 g.1 hk hR) x hx]
      exact smS_out g.1 hk hR x hx
    · rfl
theorem wK_cp {T : Int → Int} {n : Int} {k : Nat} {p : Int} {S R0 : Int → Int} (g : wG T n k p) (hR : 0 ≤ S 0 ∧ S 0 ≤ 10) : cpI (wK T n k p (cpI S R0 503)).2 S 503 = (wK T n k p S).2 := by
  funext x
  unfold cpI
  split
  · rename_i hx
    exact (wK_ag k p _ S (cpI_r S R0 503)).2 x hx.1 hx.2
  · rename_i hx
    exact (wK_out k p S g hR x hx).symm
end MW1
