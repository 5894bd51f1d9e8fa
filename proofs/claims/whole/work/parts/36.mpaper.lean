theorem tX6_heightOf (d : Nat) {pe di na : Int → Int} {on k l a : Int} {g : sp_G} {Q : sp_P} (hv : tV pe di na on) (hdi : rH g 53 24 96 di) (hna : rH g 53 120 24 na) (hk : 0 ≤ k ∧ k < 24) (ea : g 61 k = a) (ha : 0 ≤ a ∧ a < 24) (hl : 0 ≤ l ∧ l < 4) (hQ : Q (some (v_i (hT di na a l))) g) : sp_Met (d + 1) mX6_heightOf [v_r 52, v_i k, v_i l] g Q := by
  refine sp_of (L := [_, _, _]) (by decide) (Nat.le_of_ble_eq_true rfl) rfl rfl ?_
  have hb := hT_b hv ha hl
  refine aw_iconst dX6_heightOf_0 ?_
  refine aw_aload_n dX6_heightOf_1 rfl ?_
  refine aw_iload_n dX6_heightOf_2 rfl ?_
  refine aw_aload_n dX6_heightOf_3 rfl ?_
  refine aw_iload_n dX6_heightOf_4 rfl ?_
  refine aw_aload_n dX6_heightOf_5 rfl ?_
  refine aw_getR dX6_heightOf_6 flX6_35 rfl rfl ?_
  refine aw_iload_n dX6_heightOf_9 rfl ?_
  refine aw_iald dX6_heightOf_10 rfl (by omega) ?_
  rw [ea]
  refine aw_V2 dX6_heightOf_11 okX6_district lkX6_79 rfl rfl rfl ?_
  refine tX6_district _ hdi (by omega) ?_
  refine aw_V2 dX6_heightOf_14 okX6_namesOf lkX6_179 rfl rfl rfl ?_
  refine tX6_namesOf _ hna (by omega) ?_
  refine aw_iadd dX6_heightOf_17 ?_
  refine aw_iret dX6_heightOf_18 rfl ?_
  exact hQ
theorem lX6_begin (d : Nat) {C D sh : Int} {rm : Int → Int} {g0 : sp_G} {Q : sp_P} (hC : 1 ≤ C ∧ C ≤ 3) (hs : 0 ≤ sh ∧ sh * C + C ≤ 12 ∧ 0 ≤ sh * C) (e0 : g0 55 0 = C) (e1 : g0 55 1 = D) (e7 : g0 52 19 = sh) (hQ : ∀ g : sp_G, sp_fr [66] g0 g → rH g 66 0 (sh * C + C) (bg C D sh rm) → Q none (sp_up g 52 19 (sh + 1))) :
    ∀ (n : Nat) (c : Int) (g : sp_G), 0 ≤ c → c + n = C → sp_fr [66] g0 g → rH g 66 0 (sh * C + c) (bg C D sh rm) → sp_AW mX6_begins d 2 [some (v_r 52), some (v_i c)] [] g Q := by
  intro n
  induction n with
  | zero =>
    intro c g h0 hn hf hr
    have ec : c = C := by omega
    subst ec
    have f0 : g 55 0 = c := by rw [hf 55 (by decide)]; exact e0
    have f7 : g 52 19 = sh := by rw [hf 52 (by decide)]; exact e7
    refine aw_iload_n dX6_begins_2 rfl ?_
    refine aw_aload_n dX6_begins_3 rfl ?_
    refine aw_getR dX6_begins_4 flX6_16 rfl rfl ?_
    refine aw_iconst dX6_begins_7 ?_
    refine aw_iald dX6_begins_8 rfl (by omega) ?_
    rw [f0]
    refine aw_icmp_ge (tg := 42) dX6_begins_9 (by decide) (by omega) (fun h9 => ?_) (fun h9 => absurd h9 (by omega))
    refine aw_aload_n dX6_begins_42 rfl ?_
    refine aw_dup dX6_begins_43 rfl ?_
    refine aw_getI (kz := 19) dX6_begins_44 flX6_182 rfl rfl rfl ?_
    rw [f7]
    refine aw_iconst dX6_begins_47 ?_
    refine aw_iadd dX6_begins_48 ?_
    refine aw_putI (kz := 19) dX6_begins_49 flX6_182 fi_6_19 rfl rfl rfl  ?_
    refine aw_vret dX6_begins_52 rfl ?_
    exact hQ g hf hr
  | succ n ih =>
    intro c g h0 hn hf hr
    have f0 : g 55 0 = C := by rw [hf 55 (by decide)]; exact e0
    have f1 : g 55 1 = D := by rw [hf 55 (by decide)]; exact e1
    have f7 : g 52 19 = sh := by rw [hf 52 (by decide)]; exact e7
    refine aw_iload_n dX6_begins_2 rfl ?_
    refine aw_aload_n dX6_begins_3 rfl ?_
    refine aw_getR dX6_begins_4 flX6_16 rfl rfl ?_
    refine aw_iconst dX6_begins_7 ?_
    refine aw_iald dX6_begins_8 rfl (by omega) ?_
    rw [f0]
    refine aw_icmp_ge (tg := 42) dX6_begins_9 (by decide) (by omega) (fun h9 => absurd h9 (by omega)) (fun h9 => ?_)
    refine aw_aload_n dX6_begins_12 rfl ?_
    refine aw_getR dX6_begins_13 flX6_50 rfl rfl ?_
    refine aw_aload_n dX6_begins_16 rfl ?_
    refine aw_getR dX6_begins_17 flX6_16 rfl rfl ?_
    refine aw_iconst dX6_begins_20 ?_
    refine aw_iald dX6_begins_21 rfl (by omega) ?_
    refine aw_aload_n dX6_begins_22 rfl ?_
    refine aw_getI (kz := 19) dX6_begins_23 flX6_182 rfl rfl rfl ?_
    rw [f0, f7]
    refine aw_imul dX6_begins_26 ?_
    rw [Int.mul_comm C sh]
    refine aw_iload_n dX6_begins_27 rfl ?_
    refine aw_iadd dX6_begins_28 ?_
    refine aw_aload_n dX6_begins_29 rfl ?_
    refine aw_getR dX6_begins_30 flX6_16 rfl rfl ?_
    refine aw_iconst dX6_begins_33 ?_
    refine aw_iald dX6_begins_34 rfl (by omega) ?_
    rw [f1]
    refine aw_iast dX6_begins_35 rfl (by omega) ?_
    refine aw_iinc (L2 := [_, _]) dX6_begins_36 rfl (by decide) rfl rfl ?_
    refine aw_goto (tg := 2) dX6_begins_39 (by decide) ?_
    refine ih (c + 1) _ (by omega) (by omega) (hf.up (by decide)) (fun i j i0 i1 e => ?_)
    by_cases hi : i = sh * C + c
    · rw [show j = sh * C + c by omega, sp_up_s, hi]
      unfold bg
      rw [if_pos (by omega)]
    · rw [sp_up_i _ _ _ _ (by omega)]
      exact hr i j i0 (by omega) e
theorem tX6_begins (d : Nat) {C D sh : Int} {rm : Int → Int} {g : sp_G} {Q : sp_P} (hC : 1 ≤ C ∧ C ≤ 3) (hs : 0 ≤ sh ∧ sh * C + C ≤ 12 ∧ 0 ≤ sh * C) (e0 : g 55 0 = C) (e1 : g 55 1 = D) (e7 : g 52 19 = sh) (hr : rH g 66 0 (sh * C) rm) (hQ : ∀ g2 : sp_G, sp_fr [66] g g2 → rH g2 66 0 (sh * C + C) (bg C D sh rm) → Q none (sp_up g2 52 19 (sh + 1))) : sp_Met d mX6_begins [v_r 52] g Q := by
  refine sp_of (L := [_, _]) (by decide) (Nat.le_of_ble_eq_true rfl) rfl rfl ?_
  refine aw_iconst dX6_begins_0 ?_
  refine aw_istore_n (L2 := [_, _]) dX6_begins_1 (by decide) rfl rfl ?_
  refine lX6_begin d hC hs e0 e1 e7 hQ C.toNat 0 g (by omega) (by omega) sp_fr.rf (fun i j i0 i1 e => ?_)
  rw [hr i j i0 (by omega) e]
  unfold bg
  rw [if_neg (by omega)]
theorem l_more {C sh la : Int} (hC : 1 ≤ C ∧ C ≤ 3) (h1 : sh * C ≤ la + C) (h2 : la < sh * C) : ((la + 1) % C = 0 ↔ ¬ la + 1 < sh * C) := by
  rcases (show C = 1 ∨ C = 2 ∨ C = 3 by omega) with h | h | h <;> subst h <;> omega
theorem lX6_colBy (d : Nat) {C sh la h R : Int} {rm : Int → Int} {g : sp_G} {Q : sp_P} (hh : 0 ≤ h ∧ h ≤ 30) (hC : 1 ≤ C ∧ C ≤ 3) (e0 : g 55 0 = C) (e7 : g 52 19 = sh) (hr : rH g 66 0 (sh * C) rm) (hrb : ∀ c, 0 ≤ c → c < sh * C → 0 ≤ rm c ∧ rm c ≤ 30) (hp : 1 ≤ sh * C ∧ sh * C ≤ 12) (hla : 0 ≤ la ∧ la < sh * C) (hR : 0 ≤ R ∧ R ≤ 3) (hQ : Q (some (v_i (scI R h rm (sh * C)))) g) :
    ∀ (n : Nat) (c best : Int) (bx : Option sp_V), 0 ≤ c → c + n = sh * C → best = scI R h rm c → sp_AW mX6_columnBy d 82 [some (v_r 52), some (v_i R), some (v_i h), some (v_i la), some (v_i (sh * C)), some (v_i best), some (v_i c), bx] [] g Q := by
  intro n
  induction n with
  | zero =>
    intro c best bx h0 hn eb
    have ec : c = sh * C := by omega
    refine aw_iload dX6_columnBy_82 rfl ?_
    refine aw_iload dX6_columnBy_84 rfl ?_
    refine aw_icmp_ge (tg := 176) dX6_columnBy_86 (by decide) (by omega) (fun h86 => ?_) (fun h86 => absurd h86 (by omega))
    refine aw_iload dX6_columnBy_176 rfl ?_
    refine aw_iret dX6_columnBy_178 rfl ?_
    rw [eb, ec]
    exact hQ
  | succ n ih =>
    intro c best bx h0 hn eb
    have r1 := hr c c h0 (by omega) (by omega)
    have b1 := hrb c h0 (by omega)
    have hs := scI_s (R := R) (h := h) (rm := rm) h0
    have hb : best = -1 ∨ (0 ≤ best ∧ best < c) := by
      rcases scI_p (R := R) (h := h) (rm := rm) h0 with q | q
      · exact Or.inl (eb.trans q.1)
      · rw [← eb] at q; exact Or.inr ⟨q.1, q.2.1⟩
    rw [← eb] at hs
    refine aw_iload dX6_columnBy_82 rfl ?_
    refine aw_iload dX6_columnBy_84 rfl ?_
    refine aw_icmp_ge (tg := 176) dX6_columnBy_86 (by decide) (by omega) (fun h86 => absurd h86 (by omega)) (fun h86 => ?_)
    refine aw_aload_n dX6_columnBy_89 rfl ?_
    refine aw_getR dX6_columnBy_90 flX6_50 rfl rfl ?_
    refine aw_iload dX6_columnBy_93 rfl ?_
    refine aw_iald dX6_columnBy_95 rfl (by omega) ?_
    rw [r1]
    refine aw_iload_n dX6_columnBy_96 rfl ?_
    refine aw_icmp_lt (tg := 170) dX6_columnBy_97 (by decide) (by omega) (fun h97 => ?_) (fun h97 => ?_)
    · refine aw_iinc (L2 := [_, _, _, _, _, _, _, _]) dX6_columnBy_170 rfl (by decide) rfl rfl ?_
      refine aw_goto (tg := 82) dX6_columnBy_173 (by decide) ?_
      rw [if_neg (by omega)] at hs
      exact ih (c + 1) _ _ (by omega) (by omega) hs.symm
    · refine aw_iload dX6_columnBy_100 rfl ?_
      refine aw_if_lt (tg := 149) dX6_columnBy_102 (by decide) (by omega) (fun h102 => ?_) (fun h102 => ?_)
      · refine aw_iconst dX6_columnBy_149 ?_
        refine aw_goto (tg := 154) dX6_columnBy_150 (by decide) ?_
        rw [if_pos (by omega)] at hs
        refine aw_istore (L2 := [_, _, _, _, _, _, _, _]) dX6_columnBy_154 (by decide) rfl rfl ?_
        refine aw_iload dX6_columnBy_156 rfl ?_
        refine aw_if_eq (tg := 166) dX6_columnBy_158 (by decide) (by omega) (fun j158 => absurd j158 (by omega)) (fun j158 => ?_)
        refine aw_iload dX6_columnBy_161 rfl ?_
        refine aw_goto (tg := 168) dX6_columnBy_163 (by decide) ?_
        refine aw_istore (L2 := [_, _, _, _, _, _, _, _]) dX6_columnBy_168 (by decide) rfl rfl ?_
        refine aw_iinc (L2 := [_, _, _, _, _, _, _, _]) dX6_columnBy_170 rfl (by decide) rfl rfl ?_
        refine aw_goto (tg := 82) dX6_columnBy_173 (by decide) ?_
        exact ih (c + 1) _ _ (by omega) (by omega) hs.symm
      · have r2 := hr best best (by omega) (by omega) (by omega)
        have b2 := hrb best (by omega) (by omega)
        refine aw_iload_n dX6_columnBy_105 rfl ?_
        refine aw_iconst dX6_columnBy_106 ?_
        refine aw_icmp_ne (tg := 127) dX6_columnBy_107 (by decide) (by omega) (fun h107 => ?_) (fun h107 => ?_)
        · refine aw_iload_n dX6_columnBy_127 rfl ?_
          refine aw_iconst dX6_columnBy_128 ?_
          refine aw_icmp_ne (tg := 153) dX6_columnBy_129 (by decide) (by omega) (fun h129 => ?_) (fun h129 => ?_)
          · refine aw_iconst dX6_columnBy_153 ?_
            rw [if_neg (by omega)] at hs
            refine aw_istore (L2 := [_, _, _, _, _, _, _, _]) dX6_columnBy_154 (by decide) rfl rfl ?_
            refine aw_iload dX6_columnBy_156 rfl ?_
            refine aw_if_eq (tg := 166) dX6_columnBy_158 (by decide) (by omega) (fun j158 => ?_) (fun j158 => absurd j158 (by omega))
            refine aw_iload dX6_columnBy_166 rfl ?_
            refine aw_istore (L2 := [_, _, _, _, _, _, _, _]) dX6_columnBy_168 (by decide) rfl rfl ?_
            refine aw_iinc (L2 := [_, _, _, _, _, _, _, _]) dX6_columnBy_170 rfl (by decide) rfl rfl ?_
            refine aw_goto (tg := 82) dX6_columnBy_173 (by decide) ?_
            exact ih (c + 1) _ _ (by omega) (by omega) hs.symm
          · refine aw_aload_n dX6_columnBy_132 rfl ?_
            refine aw_getR dX6_columnBy_133 flX6_50 rfl rfl ?_
            refine aw_iload dX6_columnBy_136 rfl ?_
            refine aw_iald dX6_columnBy_138 rfl (by omega) ?_
            rw [r1]
            refine aw_aload_n dX6_columnBy_139 rfl ?_
            refine aw_getR dX6_columnBy_140 flX6_50 rfl rfl ?_
            refine aw_iload dX6_columnBy_143 rfl ?_
            refine aw_iald dX6_columnBy_145 rfl (by omega) ?_
            rw [r2]
            refine aw_icmp_le (tg := 153) dX6_columnBy_146 (by decide) (by omega) (fun h146 => ?_) (fun h146 => ?_)
            · refine aw_iconst dX6_columnBy_153 ?_
              rw [if_neg (by omega)] at hs
              refine aw_istore (L2 := [_, _, _, _, _, _, _, _]) dX6_columnBy_154 (by decide) rfl rfl ?_
              refine aw_iload dX6_columnBy_156 rfl ?_
              refine aw_if_eq (tg := 166) dX6_columnBy_158 (by decide) (by omega) (fun j158 => ?_) (fun j158 => absurd j158 (by omega))
              refine aw_iload dX6_columnBy_166 rfl ?_
              refine aw_istore (L2 := [_, _, _, _, _, _, _, _]) dX6_columnBy_168 (by decide) rfl rfl ?_
              refine aw_iinc (L2 := [_, _, _, _, _, _, _, _]) dX6_columnBy_170 rfl (by decide) rfl rfl ?_
              refine aw_goto (tg := 82) dX6_columnBy_173 (by decide) ?_
              exact ih (c + 1) _ _ (by omega) (by omega) hs.symm
            · refine aw_iconst dX6_columnBy_149 ?_
              refine aw_goto (tg := 154) dX6_columnBy_150 (by decide) ?_
              rw [if_pos (by omega)] at hs
              refine aw_istore (L2 := [_, _, _, _, _, _, _, _]) dX6_columnBy_154 (by decide) rfl rfl ?_
              refine aw_iload dX6_columnBy_156 rfl ?_
              refine aw_if_eq (tg := 166) dX6_columnBy_158 (by decide) (by omega) (fun j158 => absurd j158 (by omega)) (fun j158 => ?_)
              refine aw_iload dX6_columnBy_161 rfl ?_
              refine aw_goto (tg := 168) dX6_columnBy_163 (by decide) ?_
              refine aw_istore (L2 := [_, _, _, _, _, _, _, _]) dX6_columnBy_168 (by decide) rfl rfl ?_
              refine aw_iinc (L2 := [_, _, _, _, _, _, _, _]) dX6_columnBy_170 rfl (by decide) rfl rfl ?_
              refine aw_goto (tg := 82) dX6_columnBy_173 (by decide) ?_
              exact ih (c + 1) _ _ (by omega) (by omega) hs.symm
        · refine aw_aload_n dX6_columnBy_110 rfl ?_
          refine aw_getR dX6_columnBy_111 flX6_50 rfl rfl ?_
          refine aw_iload dX6_columnBy_114 rfl ?_
          refine aw_iald dX6_columnBy_116 rfl (by omega) ?_
          rw [r1]
          refine aw_aload_n dX6_columnBy_117 rfl ?_
          refine aw_getR dX6_columnBy_118 flX6_50 rfl rfl ?_
          refine aw_iload dX6_columnBy_121 rfl ?_
          refine aw_iald dX6_columnBy_123 rfl (by omega) ?_
          rw [r2]
          refine aw_icmp_lt (tg := 149) dX6_columnBy_124 (by decide) (by omega) (fun h124 => ?_) (fun h124 => ?_)
          · refine aw_iconst dX6_columnBy_149 ?_
            refine aw_goto (tg := 154) dX6_columnBy_150 (by decide) ?_
            rw [if_pos (by omega)] at hs
            refine aw_istore (L2 := [_, _, _, _, _, _, _, _]) dX6_columnBy_154 (by decide) rfl rfl ?_
            refine aw_iload dX6_columnBy_156 rfl ?_
            refine aw_if_eq (tg := 166) dX6_columnBy_158 (by decide) (by omega) (fun j158 => absurd j158 (by omega)) (fun j158 => ?_)
            refine aw_iload dX6_columnBy_161 rfl ?_
            refine aw_goto (tg := 168) dX6_columnBy_163 (by decide) ?_
            refine aw_istore (L2 := [_, _, _, _, _, _, _, _]) dX6_columnBy_168 (by decide) rfl rfl ?_
            refine aw_iinc (L2 := [_, _, _, _, _, _, _, _]) dX6_columnBy_170 rfl (by decide) rfl rfl ?_
            refine aw_goto (tg := 82) dX6_columnBy_173 (by decide) ?_
            exact ih (c + 1) _ _ (by omega) (by omega) hs.symm
          · refine aw_iload_n dX6_columnBy_127 rfl ?_
            refine aw_iconst dX6_columnBy_128 ?_
            refine aw_icmp_ne (tg := 153) dX6_columnBy_129 (by decide) (by omega) (fun h129 => ?_) (fun h129 => ?_)
            · refine aw_iconst dX6_columnBy_153 ?_
              rw [if_neg (by omega)] at hs
              refine aw_istore (L2 := [_, _, _, _, _, _, _, _]) dX6_columnBy_154 (by decide) rfl rfl ?_
              refine aw_iload dX6_columnBy_156 rfl ?_
              refine aw_if_eq (tg := 166) dX6_columnBy_158 (by decide) (by omega) (fun j158 => ?_) (fun j158 => absurd j158 (by omega))
              refine aw_iload dX6_columnBy_166 rfl ?_
              refine aw_istore (L2 := [_, _, _, _, _, _, _, _]) dX6_columnBy_168 (by decide) rfl rfl ?_
              refine aw_iinc (L2 := [_, _, _, _, _, _, _, _]) dX6_columnBy_170 rfl (by decide) rfl rfl ?_
              refine aw_goto (tg := 82) dX6_columnBy_173 (by decide) ?_
              exact ih (c + 1) _ _ (by omega) (by omega) hs.symm
            · refine aw_aload_n dX6_columnBy_132 rfl ?_
              refine aw_getR dX6_columnBy_133 flX6_50 rfl rfl ?_
              refine aw_iload dX6_columnBy_136 rfl ?_
              refine aw_iald dX6_columnBy_138 rfl (by omega) ?_
              rw [r1]
              refine aw_aload_n dX6_columnBy_139 rfl ?_
              refine aw_getR dX6_columnBy_140 flX6_50 rfl rfl ?_
              refine aw_iload dX6_columnBy_143 rfl ?_
              refine aw_iald dX6_columnBy_145 rfl (by omega) ?_
              rw [r2]
              refine aw_icmp_le (tg := 153) dX6_columnBy_146 (by decide) (by omega) (fun h146 => ?_) (fun h146 => ?_)
              · refine aw_iconst dX6_columnBy_153 ?_
                rw [if_neg (by omega)] at hs
                refine aw_istore (L2 := [_, _, _, _, _, _, _, _]) dX6_columnBy_154 (by decide) rfl rfl ?_
                refine aw_iload dX6_columnBy_156 rfl ?_
                refine aw_if_eq (tg := 166) dX6_columnBy_158 (by decide) (by omega) (fun j158 => ?_) (fun j158 => absurd j158 (by omega))
                refine aw_iload dX6_columnBy_166 rfl ?_
                refine aw_istore (L2 := [_, _, _, _, _, _, _, _]) dX6_columnBy_168 (by decide) rfl rfl ?_
                refine aw_iinc (L2 := [_, _, _, _, _, _, _, _]) dX6_columnBy_170 rfl (by decide) rfl rfl ?_
                refine aw_goto (tg := 82) dX6_columnBy_173 (by decide) ?_
                exact ih (c + 1) _ _ (by omega) (by omega) hs.symm
              · refine aw_iconst dX6_columnBy_149 ?_
                refine aw_goto (tg := 154) dX6_columnBy_150 (by decide) ?_
                rw [if_pos (by omega)] at hs
                refine aw_istore (L2 := [_, _, _, _, _, _, _, _]) dX6_columnBy_154 (by decide) rfl rfl ?_
                refine aw_iload dX6_columnBy_156 rfl ?_
                refine aw_if_eq (tg := 166) dX6_columnBy_158 (by decide) (by omega) (fun j158 => absurd j158 (by omega)) (fun j158 => ?_)
                refine aw_iload dX6_columnBy_161 rfl ?_
                refine aw_goto (tg := 168) dX6_columnBy_163 (by decide) ?_
                refine aw_istore (L2 := [_, _, _, _, _, _, _, _]) dX6_columnBy_168 (by decide) rfl rfl ?_
                refine aw_iinc (L2 := [_, _, _, _, _, _, _, _]) dX6_columnBy_170 rfl (by decide) rfl rfl ?_
                refine aw_goto (tg := 82) dX6_columnBy_173 (by decide) ?_
                exact ih (c + 1) _ _ (by omega) (by omega) hs.symm
theorem tX6_columnBy (d : Nat) {C sh la h R : Int} {rm : Int → Int} {g : sp_G} {Q : sp_P} (hh : 0 ≤ h ∧ h ≤ 30) (hC : 1 ≤ C ∧ C ≤ 3) (e0 : g 55 0 = C) (e7 : g 52 19 = sh) (hr : rH g 66 0 (sh * C) rm) (hrb : ∀ c, 0 ≤ c → c < sh * C → 0 ≤ rm c ∧ rm c ≤ 30) (hp : 1 ≤ sh * C ∧ sh * C ≤ 12) (hla : 0 ≤ la ∧ la < sh * C) (hR : 0 ≤ R ∧ R ≤ 3) (hR0 : R = 0 → sh * C ≤ la + C) (hQ : Q (some (v_i (fC R h C rm sh la))) g) : sp_Met d mX6_columnBy [v_r 52, v_i R, v_i h, v_i la] g Q := by
  refine sp_of (L := [_, _, _, _, _, _, _, _]) (by decide) (Nat.le_of_ble_eq_true rfl) rfl rfl ?_
  unfold fC at hQ
  have r1 := hr la la hla.1 hla.2 (by omega)
  have b1 := hrb la hla.1 hla.2
  refine aw_aload_n dX6_columnBy_0 rfl ?_
  refine aw_getR dX6_columnBy_1 flX6_16 rfl rfl ?_
  refine aw_iconst dX6_columnBy_4 ?_
  refine aw_iald dX6_columnBy_5 rfl (by omega) ?_
  refine aw_aload_n dX6_columnBy_6 rfl ?_
  refine aw_getI (kz := 19) dX6_columnBy_7 flX6_182 rfl rfl rfl ?_
  rw [e0, e7]
  refine aw_imul dX6_columnBy_10 ?_
  rw [Int.mul_comm C sh]
  refine aw_istore (L2 := [_, _, _, _, _, _, _, _]) dX6_columnBy_11 (by decide) rfl rfl ?_
  refine aw_iload_n dX6_columnBy_13 rfl ?_
  refine aw_if_ne (tg := 76) dX6_columnBy_14 (by decide) (by omega) (fun h14 => ?_) (fun h14 => ?_)
  · refine aw_iconst dX6_columnBy_76 ?_
    refine aw_istore (L2 := [_, _, _, _, _, _, _, _]) dX6_columnBy_77 (by decide) rfl rfl ?_
    refine aw_iconst dX6_columnBy_79 ?_
    refine aw_istore (L2 := [_, _, _, _, _, _, _, _]) dX6_columnBy_80 (by decide) rfl rfl ?_
    rw [if_neg (by omega)] at hQ
    exact lX6_colBy d hh hC e0 e7 hr hrb hp hla hR hQ (sh * C).toNat 0 (-1) _ (by omega) (by omega) rfl
  · refine aw_iload_n dX6_columnBy_17 rfl ?_
    refine aw_iconst dX6_columnBy_18 ?_
    refine aw_iadd dX6_columnBy_19 ?_
    refine aw_aload_n dX6_columnBy_20 rfl ?_
    refine aw_getR dX6_columnBy_21 flX6_16 rfl rfl ?_
    refine aw_iconst dX6_columnBy_24 ?_
    refine aw_iald dX6_columnBy_25 rfl (by omega) ?_
    rw [e0]
    refine aw_irem dX6_columnBy_26 (by omega) ?_
    have hmr := l_more hC (hR0 (by omega)) hla.2
    have hm1 := Int.emod_nonneg (la + 1) (show C ≠ 0 by omega)
    have hm2 := Int.emod_lt_of_pos (la + 1) (show 0 < C by omega)
    rw [if_pos (by omega)] at hQ
    unfold nx at hQ
    refine aw_if_eq (tg := 34) dX6_columnBy_27 (by decide) (by omega) (fun h27 => ?_) (fun h27 => ?_)
    · refine aw_iconst dX6_columnBy_34 ?_
      refine aw_istore (L2 := [_, _, _, _, _, _, _, _]) dX6_columnBy_35 (by decide) rfl rfl ?_
      refine aw_aload_n dX6_columnBy_37 rfl ?_
      refine aw_getR dX6_columnBy_38 flX6_50 rfl rfl ?_
      refine aw_iload_n dX6_columnBy_41 rfl ?_
      refine aw_iald dX6_columnBy_42 rfl (by omega) ?_
      rw [r1]
      refine aw_iload_n dX6_columnBy_43 rfl ?_
      refine aw_icmp_lt (tg := 51) dX6_columnBy_44 (by decide) (by omega) (fun h44 => ?_) (fun h44 => ?_)
      · refine aw_iload dX6_columnBy_51 rfl ?_
        refine aw_if_eq (tg := 74) dX6_columnBy_53 (by decide) (by omega) (fun h53 => ?_) (fun h53 => ?_)
        · refine aw_iconst dX6_columnBy_74 ?_
          refine aw_iret dX6_columnBy_75 rfl ?_
          first | rwa [if_pos (by omega)] at hQ | rwa [if_neg (by omega), if_pos (by omega)] at hQ | rwa [if_neg (by omega), if_neg (by omega)] at hQ
        · have r2 := hr (la + 1) (la + 1) (by omega) (by omega) (by omega)
          have b2 := hrb (la + 1) (by omega) (by omega)
          refine aw_aload_n dX6_columnBy_56 rfl ?_
          refine aw_getR dX6_columnBy_57 flX6_50 rfl rfl ?_
          refine aw_iload_n dX6_columnBy_60 rfl ?_
          refine aw_iconst dX6_columnBy_61 ?_
          refine aw_iadd dX6_columnBy_62 ?_
          refine aw_iald dX6_columnBy_63 rfl (by omega) ?_
          rw [r2]
          refine aw_iload_n dX6_columnBy_64 rfl ?_
          refine aw_icmp_lt (tg := 74) dX6_columnBy_65 (by decide) (by omega) (fun h65 => ?_) (fun h65 => ?_)
          · refine aw_iconst dX6_columnBy_74 ?_
            refine aw_iret dX6_columnBy_75 rfl ?_
            first | rwa [if_pos (by omega)] at hQ | rwa [if_neg (by omega), if_pos (by omega)] at hQ | rwa [if_neg (by omega), if_neg (by omega)] at hQ
          · refine aw_iload_n dX6_columnBy_68 rfl ?_
            refine aw_iconst dX6_columnBy_69 ?_
            refine aw_iadd dX6_columnBy_70 ?_
            refine aw_goto (tg := 75) dX6_columnBy_71 (by decide) ?_
            refine aw_iret dX6_columnBy_75 rfl ?_
            first | rwa [if_pos (by omega)] at hQ | rwa [if_neg (by omega), if_pos (by omega)] at hQ | rwa [if_neg (by omega), if_neg (by omega)] at hQ
      · refine aw_iload_n dX6_columnBy_47 rfl ?_
        refine aw_goto (tg := 75) dX6_columnBy_48 (by decide) ?_
        refine aw_iret dX6_columnBy_75 rfl ?_
        first | rwa [if_pos (by omega)] at hQ | rwa [if_neg (by omega), if_pos (by omega)] at hQ | rwa [if_neg (by omega), if_neg (by omega)] at hQ
    · refine aw_iconst dX6_columnBy_30 ?_
      refine aw_goto (tg := 35) dX6_columnBy_31 (by decide) ?_
      refine aw_istore (L2 := [_, _, _, _, _, _, _, _]) dX6_columnBy_35 (by decide) rfl rfl ?_
      refine aw_aload_n dX6_columnBy_37 rfl ?_
      refine aw_getR dX6_columnBy_38 flX6_50 rfl rfl ?_
      refine aw_iload_n dX6_columnBy_41 rfl ?_
      refine aw_iald dX6_columnBy_42 rfl (by omega) ?_
      rw [r1]
      refine aw_iload_n dX6_columnBy_43 rfl ?_
      refine aw_icmp_lt (tg := 51) dX6_columnBy_44 (by decide) (by omega) (fun h44 => ?_) (fun h44 => ?_)
      · refine aw_iload dX6_columnBy_51 rfl ?_
        refine aw_if_eq (tg := 74) dX6_columnBy_53 (by decide) (by omega) (fun h53 => ?_) (fun h53 => ?_)
        · refine aw_iconst dX6_columnBy_74 ?_
          refine aw_iret dX6_columnBy_75 rfl ?_
          first | rwa [if_pos (by omega)] at hQ | rwa [if_neg (by omega), if_pos (by omega)] at hQ | rwa [if_neg (by omega), if_neg (by omega)] at hQ
        · have r2 := hr (la + 1) (la + 1) (by omega) (by omega) (by omega)
          have b2 := hrb (la + 1) (by omega) (by omega)
          refine aw_aload_n dX6_columnBy_56 rfl ?_
          refine aw_getR dX6_columnBy_57 flX6_50 rfl rfl ?_
          refine aw_iload_n dX6_columnBy_60 rfl ?_
          refine aw_iconst dX6_columnBy_61 ?_
          refine aw_iadd dX6_columnBy_62 ?_
          refine aw_iald dX6_columnBy_63 rfl (by omega) ?_
          rw [r2]
          refine aw_iload_n dX6_columnBy_64 rfl ?_
          refine aw_icmp_lt (tg := 74) dX6_columnBy_65 (by decide) (by omega) (fun h65 => ?_) (fun h65 => ?_)
          · refine aw_iconst dX6_columnBy_74 ?_
            refine aw_iret dX6_columnBy_75 rfl ?_
            first | rwa [if_pos (by omega)] at hQ | rwa [if_neg (by omega), if_pos (by omega)] at hQ | rwa [if_neg (by omega), if_neg (by omega)] at hQ
          · refine aw_iload_n dX6_columnBy_68 rfl ?_
            refine aw_iconst dX6_columnBy_69 ?_
            refine aw_iadd dX6_columnBy_70 ?_
            refine aw_goto (tg := 75) dX6_columnBy_71 (by decide) ?_
            refine aw_iret dX6_columnBy_75 rfl ?_
            first | rwa [if_pos (by omega)] at hQ | rwa [if_neg (by omega), if_pos (by omega)] at hQ | rwa [if_neg (by omega), if_neg (by omega)] at hQ
      · refine aw_iload_n dX6_columnBy_47 rfl ?_
        refine aw_goto (tg := 75) dX6_columnBy_48 (by decide) ?_
        refine aw_iret dX6_columnBy_75 rfl ?_
        first | rwa [if_pos (by omega)] at hQ | rwa [if_neg (by omega), if_pos (by omega)] at hQ | rwa [if_neg (by omega), if_neg (by omega)] at hQ
