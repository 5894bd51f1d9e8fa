theorem lX6_i1 (d : Nat) {nn mc ms x0 y0 : Nat} {g0 : sp_G} {f : sp_Fl} {Q : sp_BQ} (hf : f 52 0 = true)
    (hk : ∀ g : sp_G, sp_fr [53] g0 g → (∀ j, g 53 j = if 0 ≤ j ∧ j < 24 then 1 else g0 53 j) → sp_BW mX6_init nn d mc ms 285 [some (v_r 52), some (v_i 24)] [] x0 y0 67 g f Q) :
    ∀ (k : Nat) (i : Int) (g : sp_G), 0 ≤ i → i + k = 24 → sp_fr [53] g0 g → (∀ j, g 53 j = if 0 ≤ j ∧ j < i then 1 else g0 53 j) → sp_BW mX6_init nn d mc ms 266 [some (v_r 52), some (v_i i)] [] x0 y0 67 g f Q := by
  intro k
  induction k with
  | zero =>
    intro i g h0 hk2 hfr hrr
    have ei : i = 24 := by omega
    subst ei
    refine bw_iload_n dX6_init_266 rfl ?_
    refine bw_bipush dX6_init_267 (by decide) ?_
    refine bw_icmp_ge (tg := 285) dX6_init_269 (by decide) (by omega) (fun _ => ?_) (fun h => absurd h (by omega))
    exact hk g hfr hrr
  | succ k ih =>
    intro i g h0 hk2 hfr hrr
    refine bw_iload_n dX6_init_266 rfl ?_
    refine bw_bipush dX6_init_267 (by decide) ?_
    refine bw_icmp_ge (tg := 285) dX6_init_269 (by decide) (by omega) (fun h => absurd h (by omega)) (fun _ => ?_)
    refine bw_aload_n dX6_init_272 rfl ?_
    refine bw_getR (r := 53) dX6_init_273 flX6_7 rfl (by decide) rfl hf ?_
    refine bw_iload_n dX6_init_276 rfl ?_
    refine bw_iconst dX6_init_277 ?_
    refine bw_iast dX6_init_278 rfl (by decide) (by omega) ?_
    refine bw_iinc (L2 := [_, _]) dX6_init_279 rfl (by decide) rfl rfl ?_
    refine bw_goto (tg := 266) dX6_init_282 (by decide) ?_
    refine ih (i + 1) _ (by omega) (by omega) (hfr.up (by simp)) (fun j => ?_)
    by_cases c : j = i
    · rw [c, sp_up_s, if_pos (by omega)]
    · rw [sp_up_i _ _ _ _ c, hrr j]
      by_cases c2 : 0 ≤ j ∧ j < i
      · rw [if_pos c2, if_pos (by omega)]
      · rw [if_neg c2, if_neg (by omega)]
theorem lX6_i2 (d : Nat) {nn mc ms x0 y0 : Nat} {g0 : sp_G} {f : sp_Fl} {Q : sp_BQ} (hf : f 52 0 = true)
    (hk : ∀ g : sp_G, sp_fr [53] g0 g → (∀ j, g 53 j = if 120 ≤ j ∧ j < 144 then 2 else g0 53 j) → sp_BW mX6_init nn d mc ms 308 [some (v_r 52), some (v_i 144)] [] x0 y0 67 g f Q) :
    ∀ (k : Nat) (i : Int) (g : sp_G), 120 ≤ i → i + k = 144 → sp_fr [53] g0 g → (∀ j, g 53 j = if 120 ≤ j ∧ j < i then 2 else g0 53 j) → sp_BW mX6_init nn d mc ms 288 [some (v_r 52), some (v_i i)] [] x0 y0 67 g f Q := by
  intro k
  induction k with
  | zero =>
    intro i g h0 hk2 hfr hrr
    have ei : i = 144 := by omega
    subst ei
    refine bw_iload_n dX6_init_288 rfl ?_
    refine bw_sipush dX6_init_289 (by decide) ?_
    refine bw_icmp_ge (tg := 308) dX6_init_292 (by decide) (by omega) (fun _ => ?_) (fun h => absurd h (by omega))
    exact hk g hfr hrr
  | succ k ih =>
    intro i g h0 hk2 hfr hrr
    refine bw_iload_n dX6_init_288 rfl ?_
    refine bw_sipush dX6_init_289 (by decide) ?_
    refine bw_icmp_ge (tg := 308) dX6_init_292 (by decide) (by omega) (fun h => absurd h (by omega)) (fun _ => ?_)
    refine bw_aload_n dX6_init_295 rfl ?_
    refine bw_getR (r := 53) dX6_init_296 flX6_7 rfl (by decide) rfl hf ?_
    refine bw_iload_n dX6_init_299 rfl ?_
    refine bw_iconst dX6_init_300 ?_
    refine bw_iast dX6_init_301 rfl (by decide) (by omega) ?_
    refine bw_iinc (L2 := [_, _]) dX6_init_302 rfl (by decide) rfl rfl ?_
    refine bw_goto (tg := 288) dX6_init_305 (by decide) ?_
    refine ih (i + 1) _ (by omega) (by omega) (hfr.up (by simp)) (fun j => ?_)
    by_cases c : j = i
    · rw [c, sp_up_s, if_pos (by omega)]
    · rw [sp_up_i _ _ _ _ c, hrr j]
      by_cases c2 : 120 ≤ j ∧ j < i
      · rw [if_pos c2, if_pos (by omega)]
      · rw [if_neg c2, if_neg (by omega)]
theorem iX6 (d : Nat) {g : sp_G} {f : sp_Fl} {Q : sp_BQ} (hg : ∀ p, 53 ≤ p → ∀ j, g p j = 0) (hQ : ∀ g1 g2 : sp_G, sp_fr [53] (sp_up (sp_up (sp_up (sp_up (sp_up (sp_up (sp_up (sp_up (sp_up (sp_up (sp_up (sp_up (sp_up (sp_up (sp_up (sp_up (sp_up (sp_up (sp_up (sp_up (sp_up (sp_up (sp_up (sp_up (sp_up (sp_up (sp_up (g) 55 0 2) 55 1 12) 55 2 0) 59 0 111) 59 1 110) 59 2 32) 59 3 111) 59 4 102) 59 5 102) 59 6 32) 59 7 112) 59 8 117) 59 9 116) 59 10 32) 59 11 110) 59 12 97) 59 13 109) 59 14 101) 59 15 115) 59 16 32) 59 17 118) 59 18 111) 59 19 116) 59 20 101) 59 21 114) 59 22 115) 59 23 32) g1 → (∀ j, g1 53 j = if 0 ≤ j ∧ j < 24 then 1 else (sp_up (sp_up (sp_up (sp_up (sp_up (sp_up (sp_up (sp_up (sp_up (sp_up (sp_up (sp_up (sp_up (sp_up (sp_up (sp_up (sp_up (sp_up (sp_up (sp_up (sp_up (sp_up (sp_up (sp_up (sp_up (sp_up (sp_up (g) 55 0 2) 55 1 12) 55 2 0) 59 0 111) 59 1 110) 59 2 32) 59 3 111) 59 4 102) 59 5 102) 59 6 32) 59 7 112) 59 8 117) 59 9 116) 59 10 32) 59 11 110) 59 12 97) 59 13 109) 59 14 101) 59 15 115) 59 16 32) 59 17 118) 59 18 111) 59 19 116) 59 20 101) 59 21 114) 59 22 115) 59 23 32) 53 j) → sp_fr [53] g1 g2 → (∀ j, g2 53 j = if 120 ≤ j ∧ j < 144 then 2 else g1 53 j) → Q 67 (sp_up g2 53 144 1) (sp_fs (sp_fs (sp_fs (sp_fs (sp_fs (sp_fs (sp_fs (sp_fs (sp_fs (sp_fs (sp_fs (sp_fs (sp_fs (sp_fs (f) 52 0) 52 1) 52 3) 52 4) 52 5) 52 8) 52 9) 52 10) 52 11) 52 13) 52 14) 52 15) 52 16) 52 18)) : sp_BMet (d + 1) 14 1575 mX6_init 52 53 g f Q := by
  refine sp_bof (L := [_, _]) (by decide) (by decide) rfl rfl ?_
  refine bw_aload_n dX6_init_0 rfl ?_
  refine bw_obj dX6_init_1 oiX6 oi_1 oi_2 (by decide) ?_
  refine bw_aload_n dX6_init_4 rfl ?_
  refine bw_sipush dX6_init_5 (by decide) ?_
  have hg53 : ∀ k, (g) 53 k = 0 := fun k => by
    first
    | exact hg _ (by decide) k
    | (repeat rw [sp_up_o _ _ _ _ (by decide)]
       exact hg _ (by decide) k)
  refine bw_newa (N := 145) (ty := .int) dX6_init_8 rfl rfl rfl (fun _ _ h => h) (fun _ => rfl) ac_int (by decide) (by decide) (by decide) hg53 rfl rfl (by decide) (by decide) (by decide) ?_
  refine bw_putR (r := 53) dX6_init_10 flX6_7 fF_6_0 rfl (by decide) rfl (by decide) ?_
  refine bw_aload_n dX6_init_13 rfl ?_
  refine bw_sipush dX6_init_14 (by decide) ?_
  have hg54 : ∀ k, (g) 54 k = 0 := fun k => by
    first
    | exact hg _ (by decide) k
    | (repeat rw [sp_up_o _ _ _ _ (by decide)]
       exact hg _ (by decide) k)
  refine bw_newa (N := 1160) (ty := .int) dX6_init_17 rfl rfl rfl (fun _ _ h => h) (fun _ => rfl) ac_int (by decide) (by decide) (by decide) hg54 rfl rfl (by decide) (by decide) (by decide) ?_
  refine bw_putR (r := 54) dX6_init_19 flX6_13 fF_6_1 rfl (by decide) rfl (by decide) ?_
  refine bw_aload_n dX6_init_22 rfl ?_
  refine bw_iconst dX6_init_23 ?_
  have hg55 : ∀ k, (g) 55 k = 0 := fun k => by
    first
    | exact hg _ (by decide) k
    | (repeat rw [sp_up_o _ _ _ _ (by decide)]
       exact hg _ (by decide) k)
  refine bw_newa (N := 3) (ty := .int) dX6_init_24 rfl rfl rfl (fun _ _ h => h) (fun _ => rfl) ac_int (by decide) (by decide) (by decide) hg55 rfl rfl (by decide) (by decide) (by decide) ?_
  refine bw_dup dX6_init_26 rfl ?_
  refine bw_iconst dX6_init_27 ?_
  refine bw_iconst dX6_init_28 ?_
  refine bw_iast dX6_init_29 rfl (by decide) (by omega) ?_
  refine bw_dup dX6_init_30 rfl ?_
  refine bw_iconst dX6_init_31 ?_
  refine bw_bipush dX6_init_32 (by decide) ?_
  refine bw_iast dX6_init_34 rfl (by decide) (by omega) ?_
  refine bw_dup dX6_init_35 rfl ?_
  refine bw_iconst dX6_init_36 ?_
  refine bw_iconst dX6_init_37 ?_
  refine bw_iast dX6_init_38 rfl (by decide) (by omega) ?_
  refine bw_putR (r := 55) dX6_init_39 flX6_16 fF_6_3 rfl (by decide) rfl (by decide) ?_
  refine bw_aload_n dX6_init_42 rfl ?_
  refine bw_iconst dX6_init_43 ?_
  have hg56 : ∀ k, (sp_up (sp_up (sp_up (g) 55 0 2) 55 1 12) 55 2 0) 56 k = 0 := fun k => by
    first
    | exact hg _ (by decide) k
    | (repeat rw [sp_up_o _ _ _ _ (by decide)]
       exact hg _ (by decide) k)
  refine bw_newa (N := 3) (ty := .int) dX6_init_44 rfl rfl rfl (fun _ _ h => h) (fun _ => rfl) ac_int (by decide) (by decide) (by decide) hg56 rfl rfl (by decide) (by decide) (by decide) ?_
  refine bw_putR (r := 56) dX6_init_46 flX6_19 fF_6_4 rfl (by decide) rfl (by decide) ?_
  refine bw_aload_n dX6_init_49 rfl ?_
  refine bw_bipush dX6_init_50 (by decide) ?_
  have hg57 : ∀ k, (sp_up (sp_up (sp_up (g) 55 0 2) 55 1 12) 55 2 0) 57 k = 0 := fun k => by
    first
    | exact hg _ (by decide) k
    | (repeat rw [sp_up_o _ _ _ _ (by decide)]
       exact hg _ (by decide) k)
  refine bw_newa (N := 120) (ty := .int) dX6_init_52 rfl rfl rfl (fun _ _ h => h) (fun _ => rfl) ac_int (by decide) (by decide) (by decide) hg57 rfl rfl (by decide) (by decide) (by decide) ?_
  refine bw_putR (r := 57) dX6_init_54 flX6_22 fF_6_5 rfl (by decide) rfl (by decide) ?_
  refine bw_aload_n dX6_init_57 rfl ?_
  refine bw_iconst dX6_init_58 ?_
  have hg58 : ∀ k, (sp_up (sp_up (sp_up (g) 55 0 2) 55 1 12) 55 2 0) 58 k = 0 := fun k => by
    first
    | exact hg _ (by decide) k
    | (repeat rw [sp_up_o _ _ _ _ (by decide)]
       exact hg _ (by decide) k)
  refine bw_newa (N := 4) (ty := .int) dX6_init_59 rfl rfl rfl (fun _ _ h => h) (fun _ => rfl) ac_int (by decide) (by decide) (by decide) hg58 rfl rfl (by decide) (by decide) (by decide) ?_
  refine bw_putR (r := 58) dX6_init_61 flX6_25 fF_6_8 rfl (by decide) rfl (by decide) ?_
  refine bw_aload_n dX6_init_64 rfl ?_
  refine bw_bipush dX6_init_65 (by decide) ?_
  have hg59 : ∀ k, (sp_up (sp_up (sp_up (g) 55 0 2) 55 1 12) 55 2 0) 59 k = 0 := fun k => by
    first
    | exact hg _ (by decide) k
    | (repeat rw [sp_up_o _ _ _ _ (by decide)]
       exact hg _ (by decide) k)
  refine bw_newa (N := 24) (ty := .char) dX6_init_67 rfl rfl rfl (fun _ _ h => h) (fun _ => rfl) ac_char (by decide) (by decide) (by decide) hg59 rfl rfl (by decide) (by decide) (by decide) ?_
  refine bw_dup dX6_init_69 rfl ?_
  refine bw_iconst dX6_init_70 ?_
  refine bw_bipush dX6_init_71 (by decide) ?_
  refine bw_cast dX6_init_73 rfl (by decide) (by omega) (by decide +kernel) ?_
  refine bw_dup dX6_init_74 rfl ?_
  refine bw_iconst dX6_init_75 ?_
  refine bw_bipush dX6_init_76 (by decide) ?_
  refine bw_cast dX6_init_78 rfl (by decide) (by omega) (by decide +kernel) ?_
  refine bw_dup dX6_init_79 rfl ?_
  refine bw_iconst dX6_init_80 ?_
  refine bw_bipush dX6_init_81 (by decide) ?_
  refine bw_cast dX6_init_83 rfl (by decide) (by omega) (by decide +kernel) ?_
  refine bw_dup dX6_init_84 rfl ?_
  refine bw_iconst dX6_init_85 ?_
  refine bw_bipush dX6_init_86 (by decide) ?_
  refine bw_cast dX6_init_88 rfl (by decide) (by omega) (by decide +kernel) ?_
  refine bw_dup dX6_init_89 rfl ?_
  refine bw_iconst dX6_init_90 ?_
  refine bw_bipush dX6_init_91 (by decide) ?_
  refine bw_cast dX6_init_93 rfl (by decide) (by omega) (by decide +kernel) ?_
  refine bw_dup dX6_init_94 rfl ?_
  refine bw_iconst dX6_init_95 ?_
  refine bw_bipush dX6_init_96 (by decide) ?_
  refine bw_cast dX6_init_98 rfl (by decide) (by omega) (by decide +kernel) ?_
  refine bw_dup dX6_init_99 rfl ?_
  refine bw_bipush dX6_init_100 (by decide) ?_
  refine bw_bipush dX6_init_102 (by decide) ?_
  refine bw_cast dX6_init_104 rfl (by decide) (by omega) (by decide +kernel) ?_
  refine bw_dup dX6_init_105 rfl ?_
  refine bw_bipush dX6_init_106 (by decide) ?_
  refine bw_bipush dX6_init_108 (by decide) ?_
  refine bw_cast dX6_init_110 rfl (by decide) (by omega) (by decide +kernel) ?_
  refine bw_dup dX6_init_111 rfl ?_
  refine bw_bipush dX6_init_112 (by decide) ?_
  refine bw_bipush dX6_init_114 (by decide) ?_
  refine bw_cast dX6_init_116 rfl (by decide) (by omega) (by decide +kernel) ?_
  refine bw_dup dX6_init_117 rfl ?_
  refine bw_bipush dX6_init_118 (by decide) ?_
  refine bw_bipush dX6_init_120 (by decide) ?_
  refine bw_cast dX6_init_122 rfl (by decide) (by omega) (by decide +kernel) ?_
  refine bw_dup dX6_init_123 rfl ?_
  refine bw_bipush dX6_init_124 (by decide) ?_
  refine bw_bipush dX6_init_126 (by decide) ?_
  refine bw_cast dX6_init_128 rfl (by decide) (by omega) (by decide +kernel) ?_
  refine bw_dup dX6_init_129 rfl ?_
  refine bw_bipush dX6_init_130 (by decide) ?_
  refine bw_bipush dX6_init_132 (by decide) ?_
  refine bw_cast dX6_init_134 rfl (by decide) (by omega) (by decide +kernel) ?_
  refine bw_dup dX6_init_135 rfl ?_
  refine bw_bipush dX6_init_136 (by decide) ?_
  refine bw_bipush dX6_init_138 (by decide) ?_
  refine bw_cast dX6_init_140 rfl (by decide) (by omega) (by decide +kernel) ?_
  refine bw_dup dX6_init_141 rfl ?_
  refine bw_bipush dX6_init_142 (by decide) ?_
  refine bw_bipush dX6_init_144 (by decide) ?_
  refine bw_cast dX6_init_146 rfl (by decide) (by omega) (by decide +kernel) ?_
  refine bw_dup dX6_init_147 rfl ?_
  refine bw_bipush dX6_init_148 (by decide) ?_
  refine bw_bipush dX6_init_150 (by decide) ?_
  refine bw_cast dX6_init_152 rfl (by decide) (by omega) (by decide +kernel) ?_
  refine bw_dup dX6_init_153 rfl ?_
  refine bw_bipush dX6_init_154 (by decide) ?_
  refine bw_bipush dX6_init_156 (by decide) ?_
  refine bw_cast dX6_init_158 rfl (by decide) (by omega) (by decide +kernel) ?_
  refine bw_dup dX6_init_159 rfl ?_
  refine bw_bipush dX6_init_160 (by decide) ?_
  refine bw_bipush dX6_init_162 (by decide) ?_
  refine bw_cast dX6_init_164 rfl (by decide) (by omega) (by decide +kernel) ?_
  refine bw_dup dX6_init_165 rfl ?_
  refine bw_bipush dX6_init_166 (by decide) ?_
  refine bw_bipush dX6_init_168 (by decide) ?_
  refine bw_cast dX6_init_170 rfl (by decide) (by omega) (by decide +kernel) ?_
  refine bw_dup dX6_init_171 rfl ?_
  refine bw_bipush dX6_init_172 (by decide) ?_
  refine bw_bipush dX6_init_174 (by decide) ?_
  refine bw_cast dX6_init_176 rfl (by decide) (by omega) (by decide +kernel) ?_
  refine bw_dup dX6_init_177 rfl ?_
  refine bw_bipush dX6_init_178 (by decide) ?_
  refine bw_bipush dX6_init_180 (by decide) ?_
  refine bw_cast dX6_init_182 rfl (by decide) (by omega) (by decide +kernel) ?_
  refine bw_dup dX6_init_183 rfl ?_
  refine bw_bipush dX6_init_184 (by decide) ?_
  refine bw_bipush dX6_init_186 (by decide) ?_
  refine bw_cast dX6_init_188 rfl (by decide) (by omega) (by decide +kernel) ?_
  refine bw_dup dX6_init_189 rfl ?_
  refine bw_bipush dX6_init_190 (by decide) ?_
  refine bw_bipush dX6_init_192 (by decide) ?_
  refine bw_cast dX6_init_194 rfl (by decide) (by omega) (by decide +kernel) ?_
  refine bw_dup dX6_init_195 rfl ?_
  refine bw_bipush dX6_init_196 (by decide) ?_
  refine bw_bipush dX6_init_198 (by decide) ?_
  refine bw_cast dX6_init_200 rfl (by decide) (by omega) (by decide +kernel) ?_
  refine bw_dup dX6_init_201 rfl ?_
  refine bw_bipush dX6_init_202 (by decide) ?_
  refine bw_bipush dX6_init_204 (by decide) ?_
  refine bw_cast dX6_init_206 rfl (by decide) (by omega) (by decide +kernel) ?_
  refine bw_putR (r := 59) dX6_init_207 flX6_28 fF_6_9 rfl (by decide) rfl (by decide) ?_
  refine bw_aload_n dX6_init_210 rfl ?_
  refine bw_bipush dX6_init_211 (by decide) ?_
  have hg60 : ∀ k, (sp_up (sp_up (sp_up (sp_up (sp_up (sp_up (sp_up (sp_up (sp_up (sp_up (sp_up (sp_up (sp_up (sp_up (sp_up (sp_up (sp_up (sp_up (sp_up (sp_up (sp_up (sp_up (sp_up (sp_up (sp_up (sp_up (sp_up (g) 55 0 2) 55 1 12) 55 2 0) 59 0 111) 59 1 110) 59 2 32) 59 3 111) 59 4 102) 59 5 102) 59 6 32) 59 7 112) 59 8 117) 59 9 116) 59 10 32) 59 11 110) 59 12 97) 59 13 109) 59 14 101) 59 15 115) 59 16 32) 59 17 118) 59 18 111) 59 19 116) 59 20 101) 59 21 114) 59 22 115) 59 23 32) 60 k = 0 := fun k => by
    first
    | exact hg _ (by decide) k
    | (repeat rw [sp_up_o _ _ _ _ (by decide)]
       exact hg _ (by decide) k)
  refine bw_newa (N := 24) (ty := .int) dX6_init_213 rfl rfl rfl (fun _ _ h => h) (fun _ => rfl) ac_int (by decide) (by decide) (by decide) hg60 rfl rfl (by decide) (by decide) (by decide) ?_
  refine bw_putR (r := 60) dX6_init_215 flX6_32 fF_6_10 rfl (by decide) rfl (by decide) ?_
  refine bw_aload_n dX6_init_218 rfl ?_
  refine bw_bipush dX6_init_219 (by decide) ?_
  have hg61 : ∀ k, (sp_up (sp_up (sp_up (sp_up (sp_up (sp_up (sp_up (sp_up (sp_up (sp_up (sp_up (sp_up (sp_up (sp_up (sp_up (sp_up (sp_up (sp_up (sp_up (sp_up (sp_up (sp_up (sp_up (sp_up (sp_up (sp_up (sp_up (g) 55 0 2) 55 1 12) 55 2 0) 59 0 111) 59 1 110) 59 2 32) 59 3 111) 59 4 102) 59 5 102) 59 6 32) 59 7 112) 59 8 117) 59 9 116) 59 10 32) 59 11 110) 59 12 97) 59 13 109) 59 14 101) 59 15 115) 59 16 32) 59 17 118) 59 18 111) 59 19 116) 59 20 101) 59 21 114) 59 22 115) 59 23 32) 61 k = 0 := fun k => by
    first
    | exact hg _ (by decide) k
    | (repeat rw [sp_up_o _ _ _ _ (by decide)]
       exact hg _ (by decide) k)
  refine bw_newa (N := 24) (ty := .int) dX6_init_221 rfl rfl rfl (fun _ _ h => h) (fun _ => rfl) ac_int (by decide) (by decide) (by decide) hg61 rfl rfl (by decide) (by decide) (by decide) ?_
  refine bw_putR (r := 61) dX6_init_223 flX6_35 fF_6_11 rfl (by decide) rfl (by decide) ?_
  refine bw_aload_n dX6_init_226 rfl ?_
  refine bw_bipush dX6_init_227 (by decide) ?_
  have hg62 : ∀ k, (sp_up (sp_up (sp_up (sp_up (sp_up (sp_up (sp_up (sp_up (sp_up (sp_up (sp_up (sp_up (sp_up (sp_up (sp_up (sp_up (sp_up (sp_up (sp_up (sp_up (sp_up (sp_up (sp_up (sp_up (sp_up (sp_up (sp_up (g) 55 0 2) 55 1 12) 55 2 0) 59 0 111) 59 1 110) 59 2 32) 59 3 111) 59 4 102) 59 5 102) 59 6 32) 59 7 112) 59 8 117) 59 9 116) 59 10 32) 59 11 110) 59 12 97) 59 13 109) 59 14 101) 59 15 115) 59 16 32) 59 17 118) 59 18 111) 59 19 116) 59 20 101) 59 21 114) 59 22 115) 59 23 32) 62 k = 0 := fun k => by
    first
    | exact hg _ (by decide) k
    | (repeat rw [sp_up_o _ _ _ _ (by decide)]
       exact hg _ (by decide) k)
  refine bw_newa (N := 24) (ty := .int) dX6_init_229 rfl rfl rfl (fun _ _ h => h) (fun _ => rfl) ac_int (by decide) (by decide) (by decide) hg62 rfl rfl (by decide) (by decide) (by decide) ?_
  refine bw_putR (r := 62) dX6_init_231 flX6_38 fF_6_13 rfl (by decide) rfl (by decide) ?_
  refine bw_aload_n dX6_init_234 rfl ?_
  refine bw_bipush dX6_init_235 (by decide) ?_
  have hg63 : ∀ k, (sp_up (sp_up (sp_up (sp_up (sp_up (sp_up (sp_up (sp_up (sp_up (sp_up (sp_up (sp_up (sp_up (sp_up (sp_up (sp_up (sp_up (sp_up (sp_up (sp_up (sp_up (sp_up (sp_up (sp_up (sp_up (sp_up (sp_up (g) 55 0 2) 55 1 12) 55 2 0) 59 0 111) 59 1 110) 59 2 32) 59 3 111) 59 4 102) 59 5 102) 59 6 32) 59 7 112) 59 8 117) 59 9 116) 59 10 32) 59 11 110) 59 12 97) 59 13 109) 59 14 101) 59 15 115) 59 16 32) 59 17 118) 59 18 111) 59 19 116) 59 20 101) 59 21 114) 59 22 115) 59 23 32) 63 k = 0 := fun k => by
    first
    | exact hg _ (by decide) k
    | (repeat rw [sp_up_o _ _ _ _ (by decide)]
       exact hg _ (by decide) k)
  refine bw_newa (N := 24) (ty := .int) dX6_init_237 rfl rfl rfl (fun _ _ h => h) (fun _ => rfl) ac_int (by decide) (by decide) (by decide) hg63 rfl rfl (by decide) (by decide) (by decide) ?_
  refine bw_putR (r := 63) dX6_init_239 flX6_41 fF_6_14 rfl (by decide) rfl (by decide) ?_
  refine bw_aload_n dX6_init_242 rfl ?_
  refine bw_iconst dX6_init_243 ?_
  have hg64 : ∀ k, (sp_up (sp_up (sp_up (sp_up (sp_up (sp_up (sp_up (sp_up (sp_up (sp_up (sp_up (sp_up (sp_up (sp_up (sp_up (sp_up (sp_up (sp_up (sp_up (sp_up (sp_up (sp_up (sp_up (sp_up (sp_up (sp_up (sp_up (g) 55 0 2) 55 1 12) 55 2 0) 59 0 111) 59 1 110) 59 2 32) 59 3 111) 59 4 102) 59 5 102) 59 6 32) 59 7 112) 59 8 117) 59 9 116) 59 10 32) 59 11 110) 59 12 97) 59 13 109) 59 14 101) 59 15 115) 59 16 32) 59 17 118) 59 18 111) 59 19 116) 59 20 101) 59 21 114) 59 22 115) 59 23 32) 64 k = 0 := fun k => by
    first
    | exact hg _ (by decide) k
    | (repeat rw [sp_up_o _ _ _ _ (by decide)]
       exact hg _ (by decide) k)
  refine bw_newa (N := 4) (ty := .int) dX6_init_244 rfl rfl rfl (fun _ _ h => h) (fun _ => rfl) ac_int (by decide) (by decide) (by decide) hg64 rfl rfl (by decide) (by decide) (by decide) ?_
  refine bw_putR (r := 64) dX6_init_246 flX6_44 fF_6_15 rfl (by decide) rfl (by decide) ?_
  refine bw_aload_n dX6_init_249 rfl ?_
  refine bw_iconst dX6_init_250 ?_
  have hg65 : ∀ k, (sp_up (sp_up (sp_up (sp_up (sp_up (sp_up (sp_up (sp_up (sp_up (sp_up (sp_up (sp_up (sp_up (sp_up (sp_up (sp_up (sp_up (sp_up (sp_up (sp_up (sp_up (sp_up (sp_up (sp_up (sp_up (sp_up (sp_up (g) 55 0 2) 55 1 12) 55 2 0) 59 0 111) 59 1 110) 59 2 32) 59 3 111) 59 4 102) 59 5 102) 59 6 32) 59 7 112) 59 8 117) 59 9 116) 59 10 32) 59 11 110) 59 12 97) 59 13 109) 59 14 101) 59 15 115) 59 16 32) 59 17 118) 59 18 111) 59 19 116) 59 20 101) 59 21 114) 59 22 115) 59 23 32) 65 k = 0 := fun k => by
    first
    | exact hg _ (by decide) k
    | (repeat rw [sp_up_o _ _ _ _ (by decide)]
       exact hg _ (by decide) k)
  refine bw_newa (N := 4) (ty := .int) dX6_init_251 rfl rfl rfl (fun _ _ h => h) (fun _ => rfl) ac_int (by decide) (by decide) (by decide) hg65 rfl rfl (by decide) (by decide) (by decide) ?_
  refine bw_putR (r := 65) dX6_init_253 flX6_47 fF_6_16 rfl (by decide) rfl (by decide) ?_
  refine bw_aload_n dX6_init_256 rfl ?_
  refine bw_bipush dX6_init_257 (by decide) ?_
  have hg66 : ∀ k, (sp_up (sp_up (sp_up (sp_up (sp_up (sp_up (sp_up (sp_up (sp_up (sp_up (sp_up (sp_up (sp_up (sp_up (sp_up (sp_up (sp_up (sp_up (sp_up (sp_up (sp_up (sp_up (sp_up (sp_up (sp_up (sp_up (sp_up (g) 55 0 2) 55 1 12) 55 2 0) 59 0 111) 59 1 110) 59 2 32) 59 3 111) 59 4 102) 59 5 102) 59 6 32) 59 7 112) 59 8 117) 59 9 116) 59 10 32) 59 11 110) 59 12 97) 59 13 109) 59 14 101) 59 15 115) 59 16 32) 59 17 118) 59 18 111) 59 19 116) 59 20 101) 59 21 114) 59 22 115) 59 23 32) 66 k = 0 := fun k => by
    first
    | exact hg _ (by decide) k
    | (repeat rw [sp_up_o _ _ _ _ (by decide)]
       exact hg _ (by decide) k)
  refine bw_newa (N := 12) (ty := .int) dX6_init_259 rfl rfl rfl (fun _ _ h => h) (fun _ => rfl) ac_int (by decide) (by decide) (by decide) hg66 rfl rfl (by decide) (by decide) (by decide) ?_
  refine bw_putR (r := 66) dX6_init_261 flX6_50 fF_6_18 rfl (by decide) rfl (by decide) ?_
  have hf : sp_fs (f) 52 0 52 0 = true := sp_fs_s _ _ _
  refine bw_iconst dX6_init_264 ?_
  refine bw_istore_n (L2 := [_, _]) dX6_init_265 (by decide) rfl rfl ?_
  refine lX6_i1 _ (by simp [sp_fs]) (fun g1 f1 r1 => ?_) 24 0 _ (by omega) (by omega) sp_fr.rf (fun j => by rw [if_neg (by omega)])
  refine bw_bipush dX6_init_285 (by decide) ?_
  refine bw_istore_n (L2 := [_, _]) dX6_init_287 (by decide) rfl rfl ?_
  refine lX6_i2 _ (by simp [sp_fs]) (fun g2 f2 r2 => ?_) 24 120 _ (by omega) (by omega) sp_fr.rf (fun j => by rw [if_neg (by omega)])
  refine bw_aload_n dX6_init_308 rfl ?_
  refine bw_getR (r := 53) dX6_init_309 flX6_7 rfl (by decide) rfl (by simp [sp_fs]) ?_
  refine bw_sipush dX6_init_312 (by decide) ?_
  refine bw_iconst dX6_init_315 ?_
  refine bw_iast dX6_init_316 rfl (by decide) (by omega) ?_
  refine bw_ret dX6_init_317 rfl rfl rfl ?_
  exact hQ g1 g2 f1 r1 f2 r2
