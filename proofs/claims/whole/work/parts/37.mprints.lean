/-- a paper under way, in the reference's cells -/
def lM (g : sp_G) (C : Int) (S : lT) : Prop := g 52 19 = l_sh S ∧ g 52 17 = l_ct S ∧ rH g 66 0 (l_sh S * C) (l_rm S) ∧ rH g 64 0 (l_ct S) (l_lr S) ∧ (l_br S = 0 → rH g 65 0 (l_ct S) (l_co S))
def prM (g g2 : sp_G) : Prop := sp_fr [52, 64, 65, 66] g g2 ∧ ∀ j, j ≠ 17 → j ≠ 19 → g2 52 j = g 52 j
theorem prM.rf {g : sp_G} : prM g g := ⟨sp_fr.rf, fun _ _ _ => rfl⟩
theorem prM.tr {g g2 g3 : sp_G} (h : prM g g2) (h2 : prM g2 g3) : prM g g3 := ⟨h.1.tr h2.1 (fun _ q => q), fun j a b => (h2.2 j a b).trans (h.2 j a b)⟩
theorem prM.up {g g2 : sp_G} {o : Nat} {i x : Int} (h : prM g g2) (ho : o ∈ [52, 64, 65, 66]) (hi : o = 52 → i = 17 ∨ i = 19) : prM g (sp_up g2 o i x) := by
  refine ⟨h.1.up ho, fun j a b => ?_⟩
  by_cases e : (52 : Nat) = o
  · subst e
    rw [sp_up_i _ _ _ _ (by have := hi rfl; omega)]
    exact h.2 j a b
  · rw [sp_up_o _ _ _ _ e]
    exact h.2 j a b
theorem prM.fr {g g2 g3 : sp_G} {ids : List Nat} (h : prM g g2) (hf : sp_fr ids g2 g3) (hi : ∀ x ∈ ids, x ∈ [64, 65, 66]) : prM g g3 := by
  refine ⟨h.1.tr hf (fun x hx => by have := hi x hx; revert this; simp; omega), fun j a b => ?_⟩
  rw [hf 52 (fun q => by have := hi 52 q; revert this; simp), h.2 j a b]
theorem prM.sc {g g2 : sp_G} (h : prM g g2) : scM g g2 := ⟨h.1.wk (by decide), h.2 2 (by decide) (by decide), h.2 6 (by decide) (by decide)⟩
theorem stM.pr {g g2 : sp_G} {kk : Int → Int} (h : stM g kk) (hp : prM g g2) : stM g2 kk := ⟨by rw [hp.2 12 (by decide) (by decide)]; exact h.1, h.2.1.fr hp.1 (by decide), h.2.2.fr hp.1 (by decide)⟩
theorem lX6_pr2 (d : Nat) {C k R la br : Int} {S : lT} {g0 : sp_G} {Q : sp_P} (hct : 0 ≤ l_ct S ∧ l_ct S ≤ 4) (ebr : br = l_br S) (hbr : br = 0 ∨ br = 1) (hM : lM g0 C S) (hQ : ∀ g : sp_G, prM g0 g → lM g C S → (l_br S = 1 → rH g 65 0 (l_ct S) (fun _ => -1)) → Q (some (v_i (shs S))) g) :
    ∀ (n : Nat) (j : Int) (x6 x7 : Option sp_V) (g : sp_G), 0 ≤ j → j + n = l_ct S → prM g0 g → lM g C S → (br = 1 → rH g 65 0 j (fun _ => -1)) → sp_AW mX6_prints d 172 [some (v_r 52), some (v_i k), some (v_i R), some (v_i la), some (v_i br), some (v_i j), x6, x7] [] g Q := by
  have fin : ∀ (g : sp_G), prM g0 g → lM g C S → (br = 1 → rH g 65 0 (l_ct S) (fun _ => -1)) → ∀ (j : Int) (x6 x7 : Option sp_V), sp_AW mX6_prints d 200 [some (v_r 52), some (v_i k), some (v_i R), some (v_i la), some (v_i br), some (v_i j), x6, x7] [] g Q := by
    intro g hp hM2 h9 j x6 x7
    have e9 := hQ g hp hM2 (fun q => h9 (by omega))
    unfold shs at e9
    refine aw_iload dX6_prints_200 rfl ?_
    refine aw_if_eq (tg := 209) dX6_prints_202 (by decide) (by omega) (fun h202 => ?_) (fun h202 => ?_)
    · refine aw_aload_n dX6_prints_209 rfl ?_
      refine aw_getI (kz := 19) dX6_prints_210 flX6_182 rfl rfl rfl ?_
      
      refine aw_iret dX6_prints_213 rfl ?_
      rw [hM2.1]
      rwa [if_neg (by omega)] at e9
    · refine aw_iconst dX6_prints_205 ?_
      refine aw_goto (tg := 213) dX6_prints_206 (by decide) ?_
      
      refine aw_iret dX6_prints_213 rfl ?_
      rwa [if_pos (by omega)] at e9
  intro n
  induction n with
  | zero =>
    intro j x6 x7 g h0 hn hp hM2 h9
    have ej : j = l_ct S := by omega
    refine aw_iload dX6_prints_172 rfl ?_
    refine aw_aload_n dX6_prints_174 rfl ?_
    refine aw_getI (kz := 17) dX6_prints_175 flX6_185 rfl rfl rfl ?_
    rw [hM2.2.1]
    refine aw_icmp_ge (tg := 200) dX6_prints_178 (by decide) (by omega) (fun h178 => ?_) (fun h178 => absurd h178 (by omega))
    exact fin g hp hM2 (fun q => by rw [← ej]; exact h9 q) _ _ _
  | succ n ih =>
    intro j x6 x7 g h0 hn hp hM2 h9
    have hM3 := hM2
    obtain ⟨m1, m2, m3, m4, m5⟩ := hM2
    refine aw_iload dX6_prints_172 rfl ?_
    refine aw_aload_n dX6_prints_174 rfl ?_
    refine aw_getI (kz := 17) dX6_prints_175 flX6_185 rfl rfl rfl ?_
    rw [m2]
    refine aw_icmp_ge (tg := 200) dX6_prints_178 (by decide) (by omega) (fun h178 => absurd h178 (by omega)) (fun h178 => ?_)
    refine aw_iload dX6_prints_181 rfl ?_
    refine aw_if_eq (tg := 200) dX6_prints_183 (by decide) (by omega) (fun h183 => ?_) (fun h183 => ?_)
    · exact fin g hp hM3 (fun q => absurd q (by omega)) _ _ _
    · refine aw_aload_n dX6_prints_186 rfl ?_
      refine aw_getR dX6_prints_187 flX6_47 rfl rfl ?_
      refine aw_iload dX6_prints_190 rfl ?_
      refine aw_iconst dX6_prints_192 ?_
      refine aw_iast dX6_prints_193 rfl (by omega) ?_
      refine aw_iinc (L2 := [_, _, _, _, _, _, _, _]) dX6_prints_194 rfl (by decide) rfl rfl ?_
      refine aw_goto (tg := 172) dX6_prints_197 (by decide) ?_
      refine ih (j + 1) _ _ _ (by omega) (by omega) (hp.up (by decide) (by omega)) ⟨by rw [sp_up_o _ _ _ _ (by decide)]; exact m1, by rw [sp_up_o _ _ _ _ (by decide)]; exact m2, m3.ne (by decide), m4.ne (by decide), fun q => absurd q (by omega)⟩ (fun q i u i0 i1 e => ?_)
      by_cases hi : i = j
      · rw [show u = j by omega, sp_up_s]
      · rw [sp_up_i _ _ _ _ (by omega)]
        exact h9 q i u i0 (by omega) e
theorem lX6_pr1 (d : Nat) {pe di na : Int → Int} {on a k C D R : Int} {g0 : sp_G} {Q : sp_P} (hv : tV pe di na on) (ha : 0 ≤ a ∧ a < 24) (hk : 0 ≤ k ∧ k < 24) (hC : 1 ≤ C ∧ C ≤ 3) (hD : 4 ≤ D ∧ D ≤ 30) (hR : 0 ≤ R ∧ R ≤ 3) (e0 : g0 55 0 = C) (e1 : g0 55 1 = D) (hdi : rH g0 53 24 96 di) (hna : rH g0 53 120 24 na) (hon : g0 53 144 = on) (ea : g0 61 k = a)
    (hc : ∀ (g : sp_G) (la br : Int) (x6 x7 : Option sp_V), br = l_br (lI C D R on (hT di na a) 4) → prM g0 g → lM g C (lI C D R on (hT di na a) 4) → sp_AW mX6_prints (d + 2) 169 [some (v_r 52), some (v_i k), some (v_i R), some (v_i la), some (v_i br), some (v_i 4), x6, x7] [] g Q) :
    ∀ (n : Nat) (l la br : Int) (x6 x7 : Option sp_V) (g : sp_G), 0 ≤ l → l + n = 4 → la = l_la (lI C D R on (hT di na a) l) → br = l_br (lI C D R on (hT di na a) l) → prM g0 g → lM g C (lI C D R on (hT di na a) l) → sp_AW mX6_prints (d + 2) 22 [some (v_r 52), some (v_i k), some (v_i R), some (v_i la), some (v_i br), some (v_i l), x6, x7] [] g Q := by
  intro n
  induction n with
  | zero =>
    intro l la br x6 x7 g h0 hn ela ebr hp hM
    have el : l = 4 := by omega
    subst el
    refine aw_iload dX6_prints_22 rfl ?_
    refine aw_iconst dX6_prints_24 ?_
    refine aw_icmp_ge (tg := 169) dX6_prints_25 (by decide) (by omega) (fun h25 => ?_) (fun h25 => absurd h25 (by omega))
    exact hc g la br _ _ ebr hp hM
  | succ n ih =>
    intro l la br x6 x7 g h0 hn ela ebr hp hM
    have hbl := bt_01 (on := on) (l := l) hv.2.2.2 (by omega)
    have hhb := hT_b (a := a) (l := l) hv ha (by omega)
    have hI := lI_V (C := C) (D := D) (R := R) (on := on) (ht := hT di na a) hC hD hR (fun l l0 l1 => by have := hT_b (a := a) (l := l) hv ha ⟨l0, l1⟩; omega) h0 (by omega)
    have hs := lI_s (C := C) (D := D) (R := R) (on := on) (ht := hT di na a) h0
    generalize lI C D R on (hT di na a) l = S at *
    obtain ⟨m1, m2, m3, m4, m5⟩ := hM
    have hV0 := hI.1
    obtain ⟨v1, v2, v3, v4, v5, v6, v7, v8, v9, v10⟩ := hI.1
    have hct := hI.2
    have mm := l_mul (sh := l_sh S) v1 v4
    have hsh4 : l_sh S ≤ 4 := by omega
    have m12 := mm.2.1 hsh4
    have gdi := hdi.fr hp.1 (by decide)
    have gna := hna.fr hp.1 (by decide)
    have gon : g 53 144 = on := by rw [hp.1 53 (by decide)]; exact hon
    have gea : g 61 k = a := by rw [hp.1 61 (by decide)]; exact ea
    have ge1 : g 55 1 = D := by rw [hp.1 55 (by decide)]; exact e1
    refine aw_iload dX6_prints_22 rfl ?_
    refine aw_iconst dX6_prints_24 ?_
    refine aw_icmp_ge (tg := 169) dX6_prints_25 (by decide) (by omega) (fun h25 => absurd h25 (by omega)) (fun h25 => ?_)
    refine aw_aload_n dX6_prints_28 rfl ?_
    refine aw_iload dX6_prints_29 rfl ?_
    refine aw_V1 dX6_prints_31 okX6_isOn lkX6_61 rfl rfl rfl ?_
    refine tX6_isOn _ gon hbl ?_
    refine aw_ifeq_b (tg := 163) dX6_prints_34 (by decide) (fun h34 => ?_) (fun h34 => ?_)
    · refine aw_iinc (L2 := [_, _, _, _, _, _, _, _]) dX6_prints_163 rfl (by decide) rfl rfl ?_
      refine aw_goto (tg := 22) dX6_prints_166 (by decide) ?_
      rw [if_neg (by assumption)] at hs
      exact ih (l + 1) _ _ _ _ g (by omega) (by omega) (by rw [hs]; exact ela) (by rw [hs]; exact ebr) hp (by rw [hs]; exact ⟨m1, m2, m3, m4, m5⟩)
    · refine aw_aload_n dX6_prints_37 rfl ?_
      refine aw_iload_n dX6_prints_38 rfl ?_
      refine aw_iload dX6_prints_39 rfl ?_
      refine aw_V2 dX6_prints_41 okX6_heightOf lkX6_191 rfl rfl rfl ?_
      have hon1 : bt on l = 1 := by assumption
      refine tX6_heightOf _ hv gdi gna hk gea ha (by omega) ?_
      refine aw_istore (L2 := [_, _, _, _, _, _, _, _]) dX6_prints_44 (by decide) rfl rfl ?_
      refine aw_iload dX6_prints_46 rfl ?_
      refine aw_if_ne (tg := 62) dX6_prints_48 (by decide) (by omega) (fun h48 => ?_) (fun h48 => ?_)
      · refine aw_iconst dX6_prints_62 ?_
        refine aw_goto (tg := 67) dX6_prints_63 (by decide) ?_
        rw [if_pos hon1] at hs
        have hlS : lS C D R (hT di na a l) l S = lB l S := by
          unfold lS
          rw [if_pos (by omega)]
        rw [hlS] at hs
        refine aw_istore (L2 := [_, _, _, _, _, _, _, _]) dX6_prints_67 (by decide) rfl rfl ?_
        refine aw_aload_n dX6_prints_69 rfl ?_
        refine aw_getR dX6_prints_70 flX6_44 rfl rfl ?_
        refine aw_aload_n dX6_prints_73 rfl ?_
        refine aw_getI (kz := 17) dX6_prints_74 flX6_185 rfl rfl rfl ?_
        refine aw_iload dX6_prints_77 rfl ?_
        rw [m2]
        refine aw_iast dX6_prints_79 rfl (by omega) ?_
        refine aw_aload_n dX6_prints_80 rfl ?_
        refine aw_getR dX6_prints_81 flX6_47 rfl rfl ?_
        refine aw_aload_n dX6_prints_84 rfl ?_
        refine aw_getI (kz := 17) dX6_prints_85 flX6_185 rfl rfl rfl ?_
        refine aw_iconst dX6_prints_88 ?_
        rw [sp_up_o _ _ _ _ (by decide), m2]
        refine aw_iast dX6_prints_89 rfl (by omega) ?_
        refine aw_iload dX6_prints_90 rfl ?_
        refine aw_if_ne (tg := 153) dX6_prints_92 (by decide) (by omega) (fun j92 => ?_) (fun j92 => absurd j92 (by omega))
        refine aw_aload_n dX6_prints_153 rfl ?_
        refine aw_dup dX6_prints_154 rfl ?_
        refine aw_getI (kz := 17) dX6_prints_155 flX6_185 rfl rfl rfl ?_
        rw [sp_up_o _ _ _ _ (by decide), sp_up_o _ _ _ _ (by decide), m2]
        refine aw_iconst dX6_prints_158 ?_
        refine aw_iadd dX6_prints_159 ?_
        refine aw_putI (kz := 17) dX6_prints_160 flX6_185 fi_6_17 rfl rfl rfl  ?_
        refine aw_iinc (L2 := [_, _, _, _, _, _, _, _]) dX6_prints_163 rfl (by decide) rfl rfl ?_
        refine aw_goto (tg := 22) dX6_prints_166 (by decide) ?_
        refine ih (l + 1) _ _ _ _ _ (by omega) (by omega) (by rw [hs]; exact ela) (by rw [hs]; rfl) (((hp.up (by decide) (by omega)).up (by decide) (by omega)).up (by decide) (by omega)) (by rw [hs]; exact ⟨by rw [sp_up_i _ _ _ _ (by decide), sp_up_o _ _ _ _ (by decide), sp_up_o _ _ _ _ (by decide)]; exact m1, sp_up_s _ _ _ _, ((m3.ne (by decide)).ne (by decide)).ne (by decide), (l_put m4 |>.ne (by decide)).ne (by decide), fun q => absurd q (by show ¬ (1 : Int) = 0; omega)⟩)
      · refine aw_iload dX6_prints_51 rfl ?_
        refine aw_aload_n dX6_prints_53 rfl ?_
        refine aw_getR dX6_prints_54 flX6_16 rfl rfl ?_
        refine aw_iconst dX6_prints_57 ?_
        refine aw_iald dX6_prints_58 rfl (by omega) ?_
        rw [ge1]
        refine aw_icmp_le (tg := 66) dX6_prints_59 (by decide) (by omega) (fun h59 => ?_) (fun h59 => ?_)
        · refine aw_iconst dX6_prints_66 ?_
          rw [if_pos hon1] at hs
          have hbr0 : l_br S = 0 := by omega
          have hhD : hT di na a l ≤ D := by omega
          refine aw_istore (L2 := [_, _, _, _, _, _, _, _]) dX6_prints_67 (by decide) rfl rfl ?_
          refine aw_aload_n dX6_prints_69 rfl ?_
          refine aw_getR dX6_prints_70 flX6_44 rfl rfl ?_
          refine aw_aload_n dX6_prints_73 rfl ?_
          refine aw_getI (kz := 17) dX6_prints_74 flX6_185 rfl rfl rfl ?_
          refine aw_iload dX6_prints_77 rfl ?_
          rw [m2]
          refine aw_iast dX6_prints_79 rfl (by omega) ?_
          refine aw_aload_n dX6_prints_80 rfl ?_
          refine aw_getR dX6_prints_81 flX6_47 rfl rfl ?_
          refine aw_aload_n dX6_prints_84 rfl ?_
          refine aw_getI (kz := 17) dX6_prints_85 flX6_185 rfl rfl rfl ?_
          refine aw_iconst dX6_prints_88 ?_
          rw [sp_up_o _ _ _ _ (by decide), m2]
          refine aw_iast dX6_prints_89 rfl (by omega) ?_
          refine aw_iload dX6_prints_90 rfl ?_
          refine aw_if_ne (tg := 153) dX6_prints_92 (by decide) (by omega) (fun j92 => absurd j92 (by omega)) (fun j92 => ?_)
          refine aw_aload_n dX6_prints_95 rfl ?_
          refine aw_iload_n dX6_prints_96 rfl ?_
          refine aw_iload dX6_prints_97 rfl ?_
          refine aw_iload_n dX6_prints_99 rfl ?_
          refine aw_V3 dX6_prints_100 okX6_columnBy lkX6_194 rfl rfl rfl ?_
          have hfc := fC_p (h := hT di na a l) hV0
          rw [ela]
          refine tX6_columnBy _ (by omega) hC (by rw [sp_up_o _ _ _ _ (by decide), sp_up_o _ _ _ _ (by decide), hp.1 55 (by decide)]; exact e0) (by rw [sp_up_o _ _ _ _ (by decide), sp_up_o _ _ _ _ (by decide)]; exact m1) ((m3.ne (by decide)).ne (by decide)) v7 (by omega) v6 hR v8 ?_
          have hlS : lS C D R (hT di na a l) l S = (if fC R (hT di na a l) C (l_rm S) (l_sh S) (l_la S) = -1 then lP (hT di na a l) l (l_sh S * C) (lG C D S) else lP (hT di na a l) l (fC R (hT di na a l) C (l_rm S) (l_sh S) (l_la S)) S) := by
            unfold lS
            rw [if_neg (by omega)]
          generalize hfe : fC R (hT di na a l) C (l_rm S) (l_sh S) (l_la S) = cc at *
          refine aw_istore (L2 := [_, _, _, _, _, _, _, _]) dX6_prints_103 (by decide) rfl rfl ?_
          refine aw_iload dX6_prints_105 rfl ?_
          refine aw_if_ge (tg := 127) dX6_prints_107 (by decide) (by omega) (fun j107 => ?_) (fun j107 => ?_)
          · rw [if_neg (by omega)] at hlS
            rw [hlS] at hs
            have hcb : 0 ≤ cc ∧ cc < l_sh S * C ∧ hT di na a l ≤ l_rm S cc := by omega
            have r1 : sp_up (sp_up g 64 (l_ct S) l) 65 (l_ct S) (-1) 66 cc = l_rm S cc := by rw [sp_up_o _ _ _ _ (by decide), sp_up_o _ _ _ _ (by decide)]; exact m3 cc cc hcb.1 hcb.2.1 (by omega)
            refine aw_aload_n dX6_prints_127 rfl ?_
            refine aw_getR dX6_prints_128 flX6_50 rfl rfl ?_
            refine aw_iload dX6_prints_131 rfl ?_
            refine aw_dup2 dX6_prints_133 rfl rfl ?_
            refine aw_iald dX6_prints_134 rfl (by omega) ?_
            rw [r1]
            refine aw_iload dX6_prints_135 rfl ?_
            refine aw_isub dX6_prints_137 ?_
            refine aw_iast dX6_prints_138 rfl (by omega) ?_
            refine aw_aload_n dX6_prints_139 rfl ?_
            refine aw_getR dX6_prints_140 flX6_47 rfl rfl ?_
            refine aw_aload_n dX6_prints_143 rfl ?_
            refine aw_getI (kz := 17) dX6_prints_144 flX6_185 rfl rfl rfl ?_
            rw [sp_up_o _ _ _ _ (by decide), sp_up_o _ _ _ _ (by decide), sp_up_o _ _ _ _ (by decide), m2]
            refine aw_iload dX6_prints_147 rfl ?_
            refine aw_iast dX6_prints_149 rfl (by omega) ?_
            refine aw_iload dX6_prints_150 rfl ?_
            refine aw_istore_n (L2 := [_, _, _, _, _, _, _, _]) dX6_prints_152 (by decide) rfl rfl ?_
            refine aw_aload_n dX6_prints_153 rfl ?_
            refine aw_dup dX6_prints_154 rfl ?_
            refine aw_getI (kz := 17) dX6_prints_155 flX6_185 rfl rfl rfl ?_
            rw [sp_up_o _ _ _ _ (by decide), sp_up_o _ _ _ _ (by decide), sp_up_o _ _ _ _ (by decide), sp_up_o _ _ _ _ (by decide), m2]
            refine aw_iconst dX6_prints_158 ?_
            refine aw_iadd dX6_prints_159 ?_
            refine aw_putI (kz := 17) dX6_prints_160 flX6_185 fi_6_17 rfl rfl rfl  ?_
            refine aw_iinc (L2 := [_, _, _, _, _, _, _, _]) dX6_prints_163 rfl (by decide) rfl rfl ?_
            refine aw_goto (tg := 22) dX6_prints_166 (by decide) ?_
            refine ih (l + 1) _ _ _ _ _ (by omega) (by omega) (by rw [hs]; rfl) (by rw [hs]; rfl) (((((hp.up (by decide) (by omega)).up (by decide) (by omega)).up (by decide) (by omega)).up (by decide) (by omega)).up (by decide) (by omega)) (by
              rw [hs]
              refine ⟨?_, sp_up_s _ _ _ _, ?_, ?_, fun _ => ?_⟩
              · rw [sp_up_i _ _ _ _ (by decide), sp_up_o _ _ _ _ (by decide), sp_up_o _ _ _ _ (by decide), sp_up_o _ _ _ _ (by decide), sp_up_o _ _ _ _ (by decide)]; exact m1
              · exact ((((m3.ne (by decide)).ne (by decide)).up (i := cc) (by omega)).ne (by decide)).ne (by decide)
              · exact ((((l_put m4).ne (by decide)).ne (by decide)).ne (by decide)).ne (by decide)
              · have h65 : rH (sp_up (sp_up (sp_up g 64 (l_ct S) l) 65 (l_ct S) (-1)) 66 cc (l_rm S cc - hT di na a l)) 65 0 (l_ct S) (l_co S) := ((((m5 hbr0).ne (by decide)).out (by omega)).ne (by decide))
                exact (l_put h65).ne (by decide))
          · rw [if_pos (by omega)] at hlS
            rw [hlS] at hs
            have hct2 : l_sh S ≤ l_ct S := by omega
            have mm1 := mm.1 (by omega)
            refine aw_aload_n dX6_prints_110 rfl ?_
            refine aw_getR dX6_prints_111 flX6_16 rfl rfl ?_
            refine aw_iconst dX6_prints_114 ?_
            refine aw_iald dX6_prints_115 rfl (by omega) ?_
            rw [sp_up_o _ _ _ _ (by decide), sp_up_o _ _ _ _ (by decide), hp.1 55 (by decide), e0]
            refine aw_aload_n dX6_prints_116 rfl ?_
            refine aw_getI (kz := 19) dX6_prints_117 flX6_182 rfl rfl rfl ?_
            rw [sp_up_o _ _ _ _ (by decide), sp_up_o _ _ _ _ (by decide), m1]
            refine aw_imul dX6_prints_120 ?_
            rw [Int.mul_comm C (l_sh S)]
            refine aw_istore (L2 := [_, _, _, _, _, _, _, _]) dX6_prints_121 (by decide) rfl rfl ?_
            refine aw_aload_n dX6_prints_123 rfl ?_
            refine aw_V0 dX6_prints_124 okX6_begins lkX6_188 rfl rfl rfl ?_
            refine tX6_begins _ (C := C) (D := D) (sh := l_sh S) (rm := l_rm S) hC (by omega) (by rw [sp_up_o _ _ _ _ (by decide), sp_up_o _ _ _ _ (by decide), hp.1 55 (by decide)]; exact e0) (by rw [sp_up_o _ _ _ _ (by decide), sp_up_o _ _ _ _ (by decide), hp.1 55 (by decide)]; exact e1) (by rw [sp_up_o _ _ _ _ (by decide), sp_up_o _ _ _ _ (by decide)]; exact m1) ((m3.ne (by decide)).ne (by decide)) (fun g2 hf2 hr2 => ?_)
            have hz : bg C D (l_sh S) (l_rm S) (l_sh S * C) = D := by unfold bg; rw [if_pos (by omega)]
            have r1 : sp_up g2 52 19 (l_sh S + 1) 66 (l_sh S * C) = D := by rw [sp_up_o _ _ _ _ (by decide), hr2 (l_sh S * C) _ (by omega) (by omega) (by omega), hz]
            have q5 : ∀ p j, p ≠ 66 → g2 p j = sp_up (sp_up g 64 (l_ct S) l) 65 (l_ct S) (-1) p j := fun p j hpp => hf2 p (by simpa using hpp) j
            have q6 : ∀ j, j = 17 → g2 52 j = l_ct S := fun j hj => by rw [q5 52 j (by decide), sp_up_o _ _ _ _ (by decide), sp_up_o _ _ _ _ (by decide), hj]; exact m2
            have q6 : ∀ j : Int, g2 52 17 = l_ct S := fun _ => q6 17 rfl
            refine aw_aload_n dX6_prints_127 rfl ?_
            refine aw_getR dX6_prints_128 flX6_50 rfl rfl ?_
            refine aw_iload dX6_prints_131 rfl ?_
            refine aw_dup2 dX6_prints_133 rfl rfl ?_
            refine aw_iald dX6_prints_134 rfl (by omega) ?_
            rw [r1]
            refine aw_iload dX6_prints_135 rfl ?_
            refine aw_isub dX6_prints_137 ?_
            refine aw_iast dX6_prints_138 rfl (by omega) ?_
            refine aw_aload_n dX6_prints_139 rfl ?_
            refine aw_getR dX6_prints_140 flX6_47 rfl rfl ?_
            refine aw_aload_n dX6_prints_143 rfl ?_
            refine aw_getI (kz := 17) dX6_prints_144 flX6_185 rfl rfl rfl ?_
            rw [sp_up_o _ _ _ _ (by decide), sp_up_i _ _ _ _ (by decide), q6 17]
            refine aw_iload dX6_prints_147 rfl ?_
            refine aw_iast dX6_prints_149 rfl (by omega) ?_
            refine aw_iload dX6_prints_150 rfl ?_
            refine aw_istore_n (L2 := [_, _, _, _, _, _, _, _]) dX6_prints_152 (by decide) rfl rfl ?_
            refine aw_aload_n dX6_prints_153 rfl ?_
            refine aw_dup dX6_prints_154 rfl ?_
            refine aw_getI (kz := 17) dX6_prints_155 flX6_185 rfl rfl rfl ?_
            rw [sp_up_o _ _ _ _ (by decide), sp_up_o _ _ _ _ (by decide), sp_up_i _ _ _ _ (by decide), q6 17]
            refine aw_iconst dX6_prints_158 ?_
            refine aw_iadd dX6_prints_159 ?_
            refine aw_putI (kz := 17) dX6_prints_160 flX6_185 fi_6_17 rfl rfl rfl  ?_
            refine aw_iinc (L2 := [_, _, _, _, _, _, _, _]) dX6_prints_163 rfl (by decide) rfl rfl ?_
            refine aw_goto (tg := 22) dX6_prints_166 (by decide) ?_
            have hpp : prM g0 g2 := ((hp.up (by decide) (by omega)).up (by decide) (by omega)).fr hf2 (by decide)
            refine ih (l + 1) _ _ _ _ _ (by omega) (by omega) (by rw [hs]; rfl) (by rw [hs]; rfl) ((((hpp.up (by decide) (by omega)).up (by decide) (by omega)).up (by decide) (by omega)).up (by decide) (by omega)) (by
              rw [hs]
              refine ⟨?_, sp_up_s _ _ _ _, ?_, ?_, fun _ => ?_⟩
              · rw [sp_up_i _ _ _ _ (by decide), sp_up_o _ _ _ _ (by decide), sp_up_o _ _ _ _ (by decide), sp_up_s]; rfl
              · have hr3 : rH (sp_up g2 52 19 (l_sh S + 1)) 66 0 ((l_sh S + 1) * C) (bg C D (l_sh S) (l_rm S)) := by rw [mm1.1]; exact hr2.ne (by decide)
                refine (((hr3.up (i := l_sh S * C) (by omega)).ne (by decide)).ne (by decide)).c (fun i i0 i1 => ?_)
                show _ = up1 (bg C D (l_sh S) (l_rm S)) (l_sh S * C) (bg C D (l_sh S) (l_rm S) (l_sh S * C) - hT di na a l) i
                rw [hz]
                rfl
              · have h64 : rH g2 64 0 (l_ct S + 1) (up1 (l_lr S) (l_ct S) l) := ((l_put m4).ne (by decide)).fr hf2 (by decide)
                exact (((h64.ne (by decide)).ne (by decide)).ne (by decide)).ne (by decide)
              · have h65 : rH g2 65 0 (l_ct S) (l_co S) := (((m5 hbr0).ne (by decide)).out (by omega)).fr hf2 (by decide)
                exact (l_put ((h65.ne (by decide)).ne (by decide))).ne (by decide))
        · refine aw_iconst dX6_prints_62 ?_
          refine aw_goto (tg := 67) dX6_prints_63 (by decide) ?_
          rw [if_pos hon1] at hs
          have hlS : lS C D R (hT di na a l) l S = lB l S := by
            unfold lS
            rw [if_pos (by omega)]
          rw [hlS] at hs
          refine aw_istore (L2 := [_, _, _, _, _, _, _, _]) dX6_prints_67 (by decide) rfl rfl ?_
          refine aw_aload_n dX6_prints_69 rfl ?_
          refine aw_getR dX6_prints_70 flX6_44 rfl rfl ?_
          refine aw_aload_n dX6_prints_73 rfl ?_
          refine aw_getI (kz := 17) dX6_prints_74 flX6_185 rfl rfl rfl ?_
          refine aw_iload dX6_prints_77 rfl ?_
          rw [m2]
          refine aw_iast dX6_prints_79 rfl (by omega) ?_
          refine aw_aload_n dX6_prints_80 rfl ?_
          refine aw_getR dX6_prints_81 flX6_47 rfl rfl ?_
          refine aw_aload_n dX6_prints_84 rfl ?_
          refine aw_getI (kz := 17) dX6_prints_85 flX6_185 rfl rfl rfl ?_
          refine aw_iconst dX6_prints_88 ?_
          rw [sp_up_o _ _ _ _ (by decide), m2]
          refine aw_iast dX6_prints_89 rfl (by omega) ?_
          refine aw_iload dX6_prints_90 rfl ?_
          refine aw_if_ne (tg := 153) dX6_prints_92 (by decide) (by omega) (fun j92 => ?_) (fun j92 => absurd j92 (by omega))
          refine aw_aload_n dX6_prints_153 rfl ?_
          refine aw_dup dX6_prints_154 rfl ?_
          refine aw_getI (kz := 17) dX6_prints_155 flX6_185 rfl rfl rfl ?_
          rw [sp_up_o _ _ _ _ (by decide), sp_up_o _ _ _ _ (by decide), m2]
          refine aw_iconst dX6_prints_158 ?_
          refine aw_iadd dX6_prints_159 ?_
          refine aw_putI (kz := 17) dX6_prints_160 flX6_185 fi_6_17 rfl rfl rfl  ?_
          refine aw_iinc (L2 := [_, _, _, _, _, _, _, _]) dX6_prints_163 rfl (by decide) rfl rfl ?_
          refine aw_goto (tg := 22) dX6_prints_166 (by decide) ?_
          refine ih (l + 1) _ _ _ _ _ (by omega) (by omega) (by rw [hs]; exact ela) (by rw [hs]; rfl) (((hp.up (by decide) (by omega)).up (by decide) (by omega)).up (by decide) (by omega)) (by rw [hs]; exact ⟨by rw [sp_up_i _ _ _ _ (by decide), sp_up_o _ _ _ _ (by decide), sp_up_o _ _ _ _ (by decide)]; exact m1, sp_up_s _ _ _ _, ((m3.ne (by decide)).ne (by decide)).ne (by decide), (l_put m4 |>.ne (by decide)).ne (by decide), fun q => absurd q (by show ¬ (1 : Int) = 0; omega)⟩)
theorem tX6_prints (d : Nat) {pe di na : Int → Int} {on a k C D R : Int} {g : sp_G} {Q : sp_P} (hv : tV pe di na on) (ha : 0 ≤ a ∧ a < 24) (hk : 0 ≤ k ∧ k < 24) (hC : 1 ≤ C ∧ C ≤ 3) (hD : 4 ≤ D ∧ D ≤ 30) (hR : 0 ≤ R ∧ R ≤ 3) (e0 : g 55 0 = C) (e1 : g 55 1 = D) (hdi : rH g 53 24 96 di) (hna : rH g 53 120 24 na) (hon : g 53 144 = on) (ea : g 61 k = a) (hQ : ∀ g2 : sp_G, prM g g2 → lM g2 C (lI C D R on (hT di na a) 4) → (l_br (lI C D R on (hT di na a) 4) = 1 → rH g2 65 0 (l_ct (lI C D R on (hT di na a) 4)) (fun _ => -1)) → Q (some (v_i (shs (lI C D R on (hT di na a) 4)))) g2) : sp_Met (d + 2) mX6_prints [v_r 52, v_i k, v_i R] g Q := by
  refine sp_of (L := [_, _, _, _, _, _, _, _]) (by decide) (Nat.le_of_ble_eq_true rfl) rfl rfl ?_
  refine aw_aload_n dX6_prints_0 rfl ?_
  refine aw_iconst dX6_prints_1 ?_
  refine aw_putI (kz := 17) dX6_prints_2 flX6_185 fi_6_17 rfl rfl rfl  ?_
  refine aw_aload_n dX6_prints_5 rfl ?_
  refine aw_iconst dX6_prints_6 ?_
  refine aw_putI (kz := 19) dX6_prints_7 flX6_182 fi_6_19 rfl rfl rfl  ?_
  refine aw_aload_n dX6_prints_10 rfl ?_
  refine aw_V0 dX6_prints_11 okX6_begins lkX6_188 rfl rfl rfl ?_
  refine tX6_begins _ (C := C) (D := D) (sh := 0) (rm := fun _ => 0) hC (by omega) (by rw [sp_up_o _ _ _ _ (by decide), sp_up_o _ _ _ _ (by decide)]; exact e0) (by rw [sp_up_o _ _ _ _ (by decide), sp_up_o _ _ _ _ (by decide)]; exact e1) (sp_up_s _ _ _ _) (fun i j i0 i1 => by omega) (fun g2 hf hr => ?_)
  refine aw_iconst dX6_prints_14 ?_
  refine aw_istore_n (L2 := [_, _, _, _, _, _, _, _]) dX6_prints_15 (by decide) rfl rfl ?_
  refine aw_iconst dX6_prints_16 ?_
  refine aw_istore (L2 := [_, _, _, _, _, _, _, _]) dX6_prints_17 (by decide) rfl rfl ?_
  refine aw_iconst dX6_prints_19 ?_
  refine aw_istore (L2 := [_, _, _, _, _, _, _, _]) dX6_prints_20 (by decide) rfl rfl ?_
  have hp2 : prM g g2 := ((prM.rf.up (by decide) (by omega)).up (by decide) (by omega)).fr hf (by decide)
  have hI4 := lI_V (C := C) (D := D) (R := R) (on := on) (ht := hT di na a) hC hD hR (fun l l0 l1 => by have := hT_b (a := a) (l := l) hv ha ⟨l0, l1⟩; omega) (l := 4) (by omega) (by omega)
  refine lX6_pr1 d hv ha hk hC hD hR e0 e1 hdi hna hon ea (fun g3 la br x6 x7 eb p3 m3 => ?_) 4 0 _ _ _ _ _ (by omega) (by omega) rfl rfl (hp2.up (by decide) (by omega)) ⟨?_, ?_, ?_, fun i j i0 i1 => ?_, fun _ i j i0 i1 => ?_⟩
  · refine aw_iconst dX6_prints_169 ?_
    refine aw_istore (L2 := [_, _, _, _, _, _, _, _]) dX6_prints_170 (by decide) rfl rfl ?_
    exact lX6_pr2 _ ⟨hI4.1.2.2.2.2.2.2.2.2.1, hI4.2⟩ eb (by rw [eb]; exact hI4.1.2.2.2.2.2.2.2.2.2) m3 (fun g4 p4 m4 n4 => hQ g4 (p3.tr p4) m4 n4) (l_ct (lI C D R on (hT di na a) 4)).toNat 0 _ _ g3 (by omega) (by have := hI4.1.2.2.2.2.2.2.2.2.1; omega) prM.rf m3 (fun _ i j i0 i1 => by omega)
  · rw [sp_up_s]; rfl
  · rw [sp_up_i _ _ _ _ (by decide), hf 52 (by decide), sp_up_i _ _ _ _ (by decide), sp_up_s]; rfl
  · show rH _ 66 0 (1 * C) (bg C D 0 (fun _ => 0))
    rw [show 1 * C = 0 * C + C by omega]
    exact hr.ne (by decide)
  · have i1 : i < 0 := i1
    omega
  · have i1 : i < 0 := i1
    omega
