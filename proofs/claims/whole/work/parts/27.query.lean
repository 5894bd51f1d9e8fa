theorem qX5_of (d : Nat) {B : Int} {Z : zZ} {a what : Int} {g : sp_G} {Q : sp_P} (hR : cRep g Z) (hV : zV B Z) (hr : ((-2147483648 ≤ a ∧ a < 2147483648)) ∧ ((-2147483648 ≤ what ∧ what < 2147483648))) (h1 : ((0 ≤ a ∧ a ≤ 23) ∧ (0 ≤ what ∧ what ≤ 5)) → ∀ g2 : sp_G, cRep g2 Z → fMo g g2 → Q (some (v_i (if what = 0 then (zp (zt Z)) a else if what = 1 then (sy (ky (zo (zt Z)) (zd (zt Z))) 24) a else (zd (zt Z)) ((what - 2) * 24 + a)))) g2) (h2 : ¬ (((0 ≤ a ∧ a ≤ 23) ∧ (0 ≤ what ∧ what ≤ 5))) → ∀ g2 : sp_G, cRep g2 (zr 3 Z) → fMo g g2 → Q (some (v_i (-2))) g2) : sp_Met (d + 8) mX5_of [v_r 0, v_i a, v_i what] g Q := by
  refine sp_of (L := [_, _, _]) (by decide) (Nat.le_of_ble_eq_true rfl) rfl rfl ?_
  refine aw_iload_n dX5_of_0 rfl ?_
  refine aw_S1 dX5_of_1 okX5_isBlock lkX5_89 rfl ?_
  refine tX5_isBlock _ (by omega) ?_
  refine aw_ifeq_b (tg := 16) dX5_of_4 (by decide) (fun h4 => ?_) (fun h4 => ?_)
  · refine aw_aload_n dX5_of_16 rfl ?_
    refine aw_V0 dX5_of_17 okX5_refuseBad lkX5_62 rfl rfl rfl ?_
    refine zX5_refuseBad _ hR hV (fun g2 r2 m2 => ?_)
    refine aw_iret dX5_of_20 rfl ?_
    exact h2 (by omega) g2 r2 m2
  · refine aw_iload_n dX5_of_7 rfl ?_
    refine aw_iconst dX5_of_8 ?_
    refine aw_iconst dX5_of_9 ?_
    refine aw_S3 dX5_of_10 okX5_within lkX5_58 rfl ?_
    refine tX5_within _ (by omega) ?_
    refine aw_ifne_b (tg := 21) dX5_of_13 (by decide) (fun h13 => ?_) (fun h13 => ?_)
    · refine aw_iload_n dX5_of_21 rfl ?_
      refine aw_if_ne (tg := 35) dX5_of_22 (by decide) (by omega) (fun h22 => ?_) (fun h22 => ?_)
      · refine aw_iload_n dX5_of_35 rfl ?_
        refine aw_iconst dX5_of_36 ?_
        refine aw_icmp_ne (tg := 54) dX5_of_37 (by decide) (by omega) (fun h37 => ?_) (fun h37 => ?_)
        · refine aw_aload_n dX5_of_54 rfl ?_
          refine aw_getR dX5_of_55 flX5_10 rfl rfl ?_
          refine aw_iload_n dX5_of_58 rfl ?_
          refine aw_iconst dX5_of_59 ?_
          refine aw_isub dX5_of_60 ?_
          refine aw_iload_n dX5_of_61 rfl ?_
          refine aw_V2 dX5_of_62 okX4_districtOf lkX5_123 rfl rfl rfl ?_
          refine tX4_districtOf_d _ hR.1.2.1 (by omega) ?_
          refine aw_iret dX5_of_65 rfl ?_
          have := h1 (by omega) g hR fMo.rf
          rwa [if_neg (by omega), if_neg (by omega)] at this
        · refine aw_aload_n dX5_of_40 rfl ?_
          refine aw_V0 dX5_of_41 okX5_sortStyles lkX5_117 rfl rfl rfl ?_
          refine tX5_sortStyles _ hR hV (fun g1 f1 s1 => ?_)
          have r1 := hR.sc (scF.s f1)
          have m1 := (scF.s f1).m
          have sb := st_b (ky (zo (zt Z)) (zd (zt Z)))
          refine aw_aload_n dX5_of_44 rfl ?_
          refine aw_getR dX5_of_45 flX5_26 rfl rfl ?_
          refine aw_getRn dX5_of_48 flX5_120 rfl rfl ?_
          refine aw_iload_n dX5_of_51 rfl ?_
          refine aw_iald dX5_of_52 rfl (by omega) ?_
          rw [s1.2.1 a a (by omega) (by omega) (by omega)]
          refine aw_iret dX5_of_53 rfl ?_
          have := h1 (by omega) g1 r1 m1
          rwa [if_neg (by omega), if_pos (by omega)] at this
      · refine aw_aload_n dX5_of_25 rfl ?_
        refine aw_getR dX5_of_26 flX5_10 rfl rfl ?_
        refine aw_getRn dX5_of_29 flX5_113 rfl rfl ?_
        refine aw_iload_n dX5_of_32 rfl ?_
        refine aw_iald dX5_of_33 rfl (by omega) ?_
        rw [hR.1.1 a a (by omega) (by omega) (by omega)]
        refine aw_iret dX5_of_34 rfl ?_
        have := h1 (by omega) g hR fMo.rf
        rwa [if_pos (by omega)] at this
    · refine aw_aload_n dX5_of_16 rfl ?_
      refine aw_V0 dX5_of_17 okX5_refuseBad lkX5_62 rfl rfl rfl ?_
      refine zX5_refuseBad _ hR hV (fun g2 r2 m2 => ?_)
      refine aw_iret dX5_of_20 rfl ?_
      exact h2 (by omega) g2 r2 m2
theorem qX5_styles (d : Nat) {B : Int} {Z : zZ}  {g : sp_G} {Q : sp_P} (hR : cRep g Z) (hV : zV B Z)  (h1 : ∀ g2 : sp_G, cRep g2 Z → fMo g g2 → Q (some (v_i ((sc (ky (zo (zt Z)) (zd (zt Z))) 24)))) g2)  : sp_Met (d + 8) mX5_styles [v_r 0] g Q := by
  refine sp_of (L := [_]) (by decide) (Nat.le_of_ble_eq_true rfl) rfl rfl ?_
  refine aw_aload_n dX5_styles_0 rfl ?_
  refine aw_V0 dX5_styles_1 okX5_sortStyles lkX5_117 rfl rfl rfl ?_
  refine tX5_sortStyles _ hR hV (fun g1 f1 s1 => ?_)
  have r1 := hR.sc (scF.s f1)
  have m1 := (scF.s f1).m
  have sb := st_b (ky (zo (zt Z)) (zd (zt Z)))
  refine aw_aload_n dX5_styles_4 rfl ?_
  refine aw_getR dX5_styles_5 flX5_26 rfl rfl ?_
  refine aw_getIn (kz := 5) dX5_styles_8 flX5_148 rfl rfl rfl ?_
  rw [s1.1]
  refine aw_iret dX5_styles_11 rfl ?_
  exact h1 g1 r1 m1
theorem xr_all : ∀ on : Nat, on < 16 → ∀ l : Nat, l < 4 → 0 ≤ sp_xor on (sp_shl 1 l) ∧ sp_xor on (sp_shl 1 l) < 16 := by decide +kernel
theorem xr_b {on l : Int} (ho : 0 ≤ on ∧ on < 16) (hl : 0 ≤ l ∧ l < 4) : 0 ≤ sp_xor on (sp_shl 1 l) ∧ sp_xor on (sp_shl 1 l) < 16 :=
  p_all1 (n := 4) (P := fun l => 0 ≤ sp_xor on (sp_shl 1 l) ∧ sp_xor on (sp_shl 1 l) < 16) (fun a ha => p_all1 (n := 16) (P := fun on => 0 ≤ sp_xor on (sp_shl 1 a) ∧ sp_xor on (sp_shl 1 a) < 16) (fun b hb => xr_all b hb a ha) ho.1 ho.2) hl.1 hl.2
theorem qX5_without (d : Nat) {B : Int} {Z : zZ} {l : Int} {g : sp_G} {Q : sp_P} (hR : cRep g Z) (hV : zV B Z) (hr : (-2147483648 ≤ l ∧ l < 2147483648)) (h1 : (0 ≤ l ∧ l ≤ 3) → ∀ g2 : sp_G, cRep g2 Z → fMo g g2 → Q (some (v_i (sc (ky (sp_xor (zo (zt Z)) (sp_shl 1 l)) (zd (zt Z))) 24))) g2) (h2 : ¬ ((0 ≤ l ∧ l ≤ 3)) → ∀ g2 : sp_G, cRep g2 (zr 3 Z) → fMo g g2 → Q (some (v_i (-2))) g2) : sp_Met (d + 8) mX5_without [v_r 0, v_i l] g Q := by
  refine sp_of (L := [_, _]) (by decide) (Nat.le_of_ble_eq_true rfl) rfl rfl ?_
  refine aw_iload_n dX5_without_0 rfl ?_
  refine aw_S1 dX5_without_1 okX5_isLayer lkX5_54 rfl ?_
  refine tX5_isLayer _ (by omega) ?_
  refine aw_ifne_b (tg := 12) dX5_without_4 (by decide) (fun h4 => ?_) (fun h4 => ?_)
  · refine aw_aload_n dX5_without_12 rfl ?_
    refine aw_getR dX5_without_13 flX5_26 rfl rfl ?_
    refine aw_aload_n dX5_without_16 rfl ?_
    refine aw_getR dX5_without_17 flX5_10 rfl rfl ?_
    refine aw_aload_n dX5_without_20 rfl ?_
    refine aw_getR dX5_without_21 flX5_10 rfl rfl ?_
    refine aw_getIn (kz := 3) dX5_without_24 flX5_162 rfl rfl rfl ?_
    rw [show g 1 3 = (zo (zt Z)) from hR.1.2.2.2]
    refine aw_iconst dX5_without_27 ?_
    refine aw_iload_n dX5_without_28 rfl ?_
    refine aw_ishl dX5_without_29 ?_
    refine aw_ixor dX5_without_30 ?_
    refine aw_V2 dX5_without_31 okX3_sortBlocks lkX5_173 rfl rfl rfl ?_
    refine tX3_sortBlocks _ hV.1.2.1 (fun q q0 q1 => bt_01 (xr_b hV.1.2.2.2 (by omega)) ⟨q0, q1⟩) hR.1.2.1 (fun g1 f1 s1 => ?_)
    refine aw_aload_n dX5_without_34 rfl ?_
    refine aw_getR dX5_without_35 flX5_26 rfl rfl ?_
    refine aw_getIn (kz := 5) dX5_without_38 flX5_148 rfl rfl rfl ?_
    rw [s1.1]
    refine aw_iret dX5_without_41 rfl ?_
    exact h1 (by omega) g1 (hR.sc (scF.s f1)) (scF.s f1).m
  · refine aw_aload_n dX5_without_7 rfl ?_
    refine aw_V0 dX5_without_8 okX5_refuseBad lkX5_62 rfl rfl rfl ?_
    refine zX5_refuseBad _ hR hV (fun g2 r2 m2 => ?_)
    refine aw_iret dX5_without_11 rfl ?_
    exact h2 (by omega) g2 r2 m2
theorem qX5_border (d : Nat) {B : Int} {Z : zZ}  {g : sp_G} {Q : sp_P} (hR : cRep g Z) (hV : zV B Z)  (h1 : ∀ g2 : sp_G, cRep g2 Z → fMo g g2 → Q (some (v_i (sI (bd (sy (ky (zo (zt Z)) (zd (zt Z))) 24)) 24))) g2)  : sp_Met (d + 8) mX5_border [v_r 0] g Q := by
  refine sp_of (L := [_]) (by decide) (Nat.le_of_ble_eq_true rfl) rfl rfl ?_
  refine aw_aload_n dX5_border_0 rfl ?_
  refine aw_V0 dX5_border_1 okX5_sortStyles lkX5_117 rfl rfl rfl ?_
  refine tX5_sortStyles _ hR hV (fun g1 f1 s1 => ?_)
  have r1 := hR.sc (scF.s f1)
  have m1 := (scF.s f1).m
  have sb := st_b (ky (zo (zt Z)) (zd (zt Z)))
  refine aw_aload_n dX5_border_4 rfl ?_
  refine aw_getR dX5_border_5 flX5_26 rfl rfl ?_
  refine aw_V0 dX5_border_8 okX3_unlikePairs lkX5_177 rfl rfl rfl ?_
  refine tX3_unlikePairs _ s1.2.1 sb.2.2 ?_
  refine aw_iret dX5_border_11 rfl ?_
  exact h1 g1 r1 m1
def zst (Z : zZ) (s what : Int) : Int := if what = 0 then sI (bF (sy (ky (zo (zt Z)) (zd (zt Z))) 24) s) 24 else if what = 1 then vo (sy (ky (zo (zt Z)) (zd (zt Z))) 24) (zp (zt Z)) s else if what = 3 then bt (zo (zt Z)) 0 + bt (zo (zt Z)) 1 + bt (zo (zt Z)) 2 + bt (zo (zt Z)) 3 else (sf (ky (zo (zt Z)) (zd (zt Z))) 24) s
noncomputable def zsty (Z : zZ) (s what : Int) : Int := if what = 2 then pt (sy (ky (zo (zt Z)) (zd (zt Z))) 24) s else zst Z s what
theorem qX5_style (d : Nat) {B : Int} {Z : zZ} {s what : Int} {g : sp_G} {Q : sp_P} (hR : cRep g Z) (hV : zV B Z) (hr : ((-2147483648 ≤ s ∧ s < 2147483648)) ∧ ((-2147483648 ≤ what ∧ what < 2147483648))) (h1 : ((0 ≤ s ∧ s ≤ (sc (ky (zo (zt Z)) (zd (zt Z))) 24) - 1) ∧ (0 ≤ what ∧ what ≤ 4)) → ∀ g2 : sp_G, cRep g2 Z → fMo g g2 → Q (some (v_i (zsty Z s what))) g2) (h2 : ¬ (((0 ≤ s ∧ s ≤ (sc (ky (zo (zt Z)) (zd (zt Z))) 24) - 1) ∧ (0 ≤ what ∧ what ≤ 4))) → ∀ g2 : sp_G, cRep g2 (zr 3 Z) → fMo g g2 → Q (some (v_i (-2))) g2) : sp_Met (d + 8) mX5_style [v_r 0, v_i s, v_i what] g Q := by
  refine sp_of (L := [_, _, _]) (by decide) (Nat.le_of_ble_eq_true rfl) rfl rfl ?_
  refine aw_aload_n dX5_style_0 rfl ?_
  refine aw_iload_n dX5_style_1 rfl ?_
  refine aw_V1 dX5_style_2 okX5_isStyle lkX5_149 rfl rfl rfl ?_
  refine tX5_isStyle _ hR hV (by omega) (fun g1 f1 s1 => ?_)
  have r1 := hR.sc (scF.s f1)
  have m1 := (scF.s f1).m
  have sb := st_b (ky (zo (zt Z)) (zd (zt Z)))
  refine aw_ifne_b (tg := 13) dX5_style_5 (by decide) (fun h5 => ?_) (fun h5 => ?_)
  · refine aw_iload_n dX5_style_13 rfl ?_
    rcases (show what = 0 ∨ what = 1 ∨ what = 2 ∨ what = 3 ∨ what = 4 ∨ what < 0 ∨ 4 < what by omega) with h9 | h9 | h9 | h9 | h9 | h9
    · subst h9
      refine aw_tin (tg := 48) dX5_style_14 (by omega) (by omega) rfl (by decide) ?_
      refine aw_aload_n dX5_style_48 rfl ?_
      refine aw_getR dX5_style_49 flX5_26 rfl rfl ?_
      refine aw_iload_n dX5_style_52 rfl ?_
      refine aw_V1 dX5_style_53 okX3_blocksOf lkX5_152 rfl rfl rfl ?_
      refine tX3_blocksOf _ s1.2.1 sb.2.2 (by omega) ?_
      refine aw_iret dX5_style_56 rfl ?_
      exact h1 (by omega) g1 r1 m1
    · subst h9
      refine aw_tin (tg := 57) dX5_style_14 (by omega) (by omega) rfl (by decide) ?_
      refine aw_aload_n dX5_style_57 rfl ?_
      refine aw_getR dX5_style_58 flX5_26 rfl rfl ?_
      refine aw_iload_n dX5_style_61 rfl ?_
      refine aw_aload_n dX5_style_62 rfl ?_
      refine aw_getR dX5_style_63 flX5_10 rfl rfl ?_
      refine aw_V2 dX5_style_66 okX3_votersOf lkX5_155 rfl rfl rfl ?_
      refine tX3_votersOf _ s1.2.1 sb.2.2 (by omega) r1.1.1 ?_
      refine aw_iret dX5_style_69 rfl ?_
      exact h1 (by omega) g1 r1 m1
    · subst h9
      refine aw_tin (tg := 70) dX5_style_14 (by omega) (by omega) rfl (by decide) ?_
      refine aw_aload_n dX5_style_70 rfl ?_
      refine aw_getR dX5_style_71 flX5_26 rfl rfl ?_
      refine aw_iload_n dX5_style_74 rfl ?_
      refine aw_V1 dX5_style_75 okX3_partsOf lkX5_159 rfl rfl rfl ?_
      refine tX3_partsOf _ s1.2.1 sb.2.2 (by omega) (fun g2 f2 => ?_)
      refine aw_iret dX5_style_78 rfl ?_
      exact h1 (by omega) g2 (r1.sc (scF.v f2)) (m1.tr (scF.v f2).m)
    · subst h9
      refine aw_tin (tg := 79) dX5_style_14 (by omega) (by omega) rfl (by decide) ?_
      refine aw_aload_n dX5_style_79 rfl ?_
      refine aw_getR dX5_style_80 flX5_10 rfl rfl ?_
      refine aw_getIn (kz := 3) dX5_style_83 flX5_162 rfl rfl rfl ?_
      rw [show g1 1 3 = (zo (zt Z)) from r1.1.2.2.2]
      refine aw_S1 dX5_style_86 okJ6_bitCount lkX5_165 rfl ?_
      refine tJ6_bitCount _ hV.1.2.2.2 ?_
      refine aw_iret dX5_style_89 rfl ?_
      exact h1 (by omega) g1 r1 m1
    · subst h9
      refine aw_tin (tg := 90) dX5_style_14 (by omega) (by omega) rfl (by decide) ?_
      refine aw_aload_n dX5_style_90 rfl ?_
      refine aw_getR dX5_style_91 flX5_26 rfl rfl ?_
      refine aw_getRn dX5_style_94 flX5_170 rfl rfl ?_
      refine aw_iload_n dX5_style_97 rfl ?_
      refine aw_iald dX5_style_98 rfl (by omega) ?_
      rw [s1.2.2 s s (by omega) (by omega) (by omega)]
      refine aw_iret dX5_style_99 rfl ?_
      exact h1 (by omega) g1 r1 m1
    · refine aw_tout (tg := 100) dX5_style_14 (by omega) (by omega) (by decide) ?_
      refine aw_aload_n dX5_style_100 rfl ?_
      refine aw_V0 dX5_style_101 okX5_refuseBad lkX5_62 rfl rfl rfl ?_
      refine zX5_refuseBad _ r1 hV (fun g2 r2 m2 => ?_)
      refine aw_iret dX5_style_104 rfl ?_
      exact h2 (by omega) g2 r2 (m1.tr m2)
  · refine aw_aload_n dX5_style_8 rfl ?_
    refine aw_V0 dX5_style_9 okX5_refuseBad lkX5_62 rfl rfl rfl ?_
    refine zX5_refuseBad _ r1 hV (fun g2 r2 m2 => ?_)
    refine aw_iret dX5_style_12 rfl ?_
    exact h2 (by omega) g2 r2 (m1.tr m2)
theorem qX5_beside (d : Nat) {B : Int} {Z : zZ} {s q : Int} {g : sp_G} {Q : sp_P} (hR : cRep g Z) (hV : zV B Z) (hr : ((-2147483648 ≤ s ∧ s < 2147483648)) ∧ ((-2147483648 ≤ q ∧ q < 2147483648))) (h1 : ((0 ≤ s ∧ s ≤ (sc (ky (zo (zt Z)) (zd (zt Z))) 24) - 1) ∧ (0 ≤ q ∧ q ≤ (sc (ky (zo (zt Z)) (zd (zt Z))) 24) - 1) ∧ s ≠ q) → ∀ g2 : sp_G, cRep g2 Z → fMo g g2 → Q (some (v_i (sI (bs (sy (ky (zo (zt Z)) (zd (zt Z))) 24) s q) 24))) g2) (h2 : ¬ (((0 ≤ s ∧ s ≤ (sc (ky (zo (zt Z)) (zd (zt Z))) 24) - 1) ∧ (0 ≤ q ∧ q ≤ (sc (ky (zo (zt Z)) (zd (zt Z))) 24) - 1) ∧ s ≠ q)) → ∀ g2 : sp_G, cRep g2 (zr 3 Z) → fMo g g2 → Q (some (v_i (-2))) g2) : sp_Met (d + 8) mX5_beside [v_r 0, v_i s, v_i q] g Q := by
  refine sp_of (L := [_, _, _]) (by decide) (Nat.le_of_ble_eq_true rfl) rfl rfl ?_
  refine aw_aload_n dX5_beside_0 rfl ?_
  refine aw_iload_n dX5_beside_1 rfl ?_
  refine aw_V1 dX5_beside_2 okX5_isStyle lkX5_149 rfl rfl rfl ?_
  refine tX5_isStyle _ hR hV (by omega) (fun g1 f1 s1 => ?_)
  have r1 := hR.sc (scF.s f1)
  have m1 := (scF.s f1).m
  have sb := st_b (ky (zo (zt Z)) (zd (zt Z)))
  refine aw_ifeq_b (tg := 21) dX5_beside_5 (by decide) (fun h5 => ?_) (fun h5 => ?_)
  · refine aw_aload_n dX5_beside_21 rfl ?_
    refine aw_V0 dX5_beside_22 okX5_refuseBad lkX5_62 rfl rfl rfl ?_
    first | refine zX5_refuseBad _ r3 hV (fun g2 r2 m2 => ?_) | refine zX5_refuseBad _ r1 hV (fun g2 r2 m2 => ?_)
    refine aw_iret dX5_beside_25 rfl ?_
    exact h2 (by omega) g2 r2 (m1.tr m2)
  · refine aw_aload_n dX5_beside_8 rfl ?_
    refine aw_iload_n dX5_beside_9 rfl ?_
    refine aw_V1 dX5_beside_10 okX5_isStyle lkX5_149 rfl rfl rfl ?_
    refine tX5_isStyle _ r1 hV (by omega) (fun g3 f3 s3 => ?_)
    have r3 := r1.sc (scF.s f3)
    have m3 := m1.tr (scF.s f3).m
    refine aw_ifeq_b (tg := 21) dX5_beside_13 (by decide) (fun h13 => ?_) (fun h13 => ?_)
    · refine aw_aload_n dX5_beside_21 rfl ?_
      refine aw_V0 dX5_beside_22 okX5_refuseBad lkX5_62 rfl rfl rfl ?_
      first | refine zX5_refuseBad _ r3 hV (fun g2 r2 m2 => ?_) | refine zX5_refuseBad _ r1 hV (fun g2 r2 m2 => ?_)
      refine aw_iret dX5_beside_25 rfl ?_
      exact h2 (by omega) g2 r2 (m3.tr m2)
    · refine aw_iload_n dX5_beside_16 rfl ?_
      refine aw_iload_n dX5_beside_17 rfl ?_
      refine aw_icmp_ne (tg := 26) dX5_beside_18 (by decide) (by omega) (fun h18 => ?_) (fun h18 => ?_)
      · refine aw_aload_n dX5_beside_26 rfl ?_
        refine aw_getR dX5_beside_27 flX5_26 rfl rfl ?_
        refine aw_iload_n dX5_beside_30 rfl ?_
        refine aw_iload_n dX5_beside_31 rfl ?_
        refine aw_V2 dX5_beside_32 okX3_pairsOf lkX5_180 rfl rfl rfl ?_
        refine tX3_pairsOf _ s3.2.1 sb.2.2 (by omega) (by omega) ?_
        refine aw_iret dX5_beside_35 rfl ?_
        exact h1 (by omega) g3 r3 m3
      · refine aw_aload_n dX5_beside_21 rfl ?_
        refine aw_V0 dX5_beside_22 okX5_refuseBad lkX5_62 rfl rfl rfl ?_
        first | refine zX5_refuseBad _ r3 hV (fun g2 r2 m2 => ?_) | refine zX5_refuseBad _ r1 hV (fun g2 r2 m2 => ?_)
        refine aw_iret dX5_beside_25 rfl ?_
        exact h2 (by omega) g2 r2 (m3.tr m2)
def zul (Z : zZ) (s q : Int) : Int → Int := fun l => if bt (zo (zt Z)) l = 1 ∧ (zd (zt Z)) (l * 24 + (sf (ky (zo (zt Z)) (zd (zt Z))) 24) s) ≠ (zd (zt Z)) (l * 24 + (sf (ky (zo (zt Z)) (zd (zt Z))) 24) q) then 1 else 0
theorem lX5_unlike (d : Nat) {B : Int} {Z : zZ} {s q a b : Int} {g : sp_G} {Q : sp_P} (hR : cRep g Z) (hV : zV B Z) (ea : a = (sf (ky (zo (zt Z)) (zd (zt Z))) 24) s) (eb : b = (sf (ky (zo (zt Z)) (zd (zt Z))) 24) q) (ha : 0 ≤ a ∧ a < 24) (hb : 0 ≤ b ∧ b < 24) (hQ : Q (some (v_i (sI (zul Z s q) 4))) g) :
    ∀ (n : Nat) (l many : Int), 0 ≤ l → l + n = 4 → many = sI (zul Z s q) l → sp_AW mX5_unlike (d + 1) 48 [some (v_r 0), some (v_i s), some (v_i q), some (v_i a), some (v_i b), some (v_i many), some (v_i l)] [] g Q := by
  intro n
  induction n with
  | zero =>
    intro l many h0 hn em
    have el : l = 4 := by omega
    subst el
    refine aw_iload dX5_unlike_48 rfl ?_
    refine aw_iconst dX5_unlike_50 ?_
    refine aw_icmp_ge (tg := 99) dX5_unlike_51 (by decide) (by omega) (fun h51 => ?_) (fun h51 => absurd h51 (by omega))
    refine aw_iload dX5_unlike_99 rfl ?_
    refine aw_iret dX5_unlike_101 rfl ?_
    rw [em]
    exact hQ
  | succ n ih =>
    intro l many h0 hn em
    have hbl := bt_01 (on := (zo (zt Z))) (l := l) hV.1.2.2.2 (by omega)
    have hon : g 1 3 = (zo (zt Z)) := hR.1.2.2.2
    have b1 := hV.1.2.1 (l * 24 + a) (by omega) (by omega)
    have b2 := hV.1.2.1 (l * 24 + b) (by omega) (by omega)
    have hs := sI_s (zul Z s q) h0
    rw [← em] at hs
    have hz : zul Z s q l = if bt (zo (zt Z)) l = 1 ∧ (zd (zt Z)) (l * 24 + a) ≠ (zd (zt Z)) (l * 24 + b) then 1 else 0 := by rw [ea, eb]; rfl
    refine aw_iload dX5_unlike_48 rfl ?_
    refine aw_iconst dX5_unlike_50 ?_
    refine aw_icmp_ge (tg := 99) dX5_unlike_51 (by decide) (by omega) (fun h51 => absurd h51 (by omega)) (fun h51 => ?_)
    refine aw_aload_n dX5_unlike_54 rfl ?_
    refine aw_getR dX5_unlike_55 flX5_10 rfl rfl ?_
    refine aw_iload dX5_unlike_58 rfl ?_
    refine aw_V1 dX5_unlike_60 okX4_isOn lkX5_183 rfl rfl rfl ?_
    refine tX4_isOn _ (by rw [hon]; exact hbl) ?_
    rw [hon]
    refine aw_ifeq_b (tg := 93) dX5_unlike_63 (by decide) (fun h63 => ?_) (fun h63 => ?_)
    · refine aw_iinc (L2 := [_, _, _, _, _, _, _]) dX5_unlike_93 rfl (by decide) rfl rfl ?_
      refine aw_goto (tg := 48) dX5_unlike_96 (by decide) ?_
      rw [hz, if_neg (fun k => h63 k.1)] at hs
      exact ih (l + 1) _ (by omega) (by omega) (by omega)
    · refine aw_aload_n dX5_unlike_66 rfl ?_
      refine aw_getR dX5_unlike_67 flX5_10 rfl rfl ?_
      refine aw_iload dX5_unlike_70 rfl ?_
      refine aw_iload_n dX5_unlike_72 rfl ?_
      refine aw_V2 dX5_unlike_73 okX4_districtOf lkX5_123 rfl rfl rfl ?_
      refine tX4_districtOf_d _ hR.1.2.1 (by omega) ?_
      refine aw_aload_n dX5_unlike_76 rfl ?_
      refine aw_getR dX5_unlike_77 flX5_10 rfl rfl ?_
      refine aw_iload dX5_unlike_80 rfl ?_
      refine aw_iload dX5_unlike_82 rfl ?_
      refine aw_V2 dX5_unlike_84 okX4_districtOf lkX5_123 rfl rfl rfl ?_
      refine tX4_districtOf_d _ hR.1.2.1 (by omega) ?_
      refine aw_icmp_eq (tg := 93) dX5_unlike_87 (by decide) (by omega) (fun h87 => ?_) (fun h87 => ?_)
      · refine aw_iinc (L2 := [_, _, _, _, _, _, _]) dX5_unlike_93 rfl (by decide) rfl rfl ?_
        refine aw_goto (tg := 48) dX5_unlike_96 (by decide) ?_
        rw [hz, if_neg (fun k => k.2 h87)] at hs
        exact ih (l + 1) _ (by omega) (by omega) (by omega)
      · refine aw_iinc (L2 := [_, _, _, _, _, _, _]) dX5_unlike_90 rfl (by decide) rfl rfl ?_
        refine aw_iinc (L2 := [_, _, _, _, _, _, _]) dX5_unlike_93 rfl (by decide) rfl rfl ?_
        refine aw_goto (tg := 48) dX5_unlike_96 (by decide) ?_
        rw [hz, if_pos ⟨h63, h87⟩] at hs
        exact ih (l + 1) _ (by omega) (by omega) (by omega)
theorem qX5_unlike (d : Nat) {B : Int} {Z : zZ} {s q : Int} {g : sp_G} {Q : sp_P} (hR : cRep g Z) (hV : zV B Z) (hr : ((-2147483648 ≤ s ∧ s < 2147483648)) ∧ ((-2147483648 ≤ q ∧ q < 2147483648))) (h1 : ((0 ≤ s ∧ s ≤ (sc (ky (zo (zt Z)) (zd (zt Z))) 24) - 1) ∧ (0 ≤ q ∧ q ≤ (sc (ky (zo (zt Z)) (zd (zt Z))) 24) - 1)) → ∀ g2 : sp_G, cRep g2 Z → fMo g g2 → Q (some (v_i (sI (zul Z s q) 4))) g2) (h2 : ¬ (((0 ≤ s ∧ s ≤ (sc (ky (zo (zt Z)) (zd (zt Z))) 24) - 1) ∧ (0 ≤ q ∧ q ≤ (sc (ky (zo (zt Z)) (zd (zt Z))) 24) - 1))) → ∀ g2 : sp_G, cRep g2 (zr 3 Z) → fMo g g2 → Q (some (v_i (-2))) g2) : sp_Met (d + 8) mX5_unlike [v_r 0, v_i s, v_i q] g Q := by
  refine sp_of (L := [_, _, _, _, _, _, _]) (by decide) (Nat.le_of_ble_eq_true rfl) rfl rfl ?_
  refine aw_aload_n dX5_unlike_0 rfl ?_
  refine aw_iload_n dX5_unlike_1 rfl ?_
  refine aw_V1 dX5_unlike_2 okX5_isStyle lkX5_149 rfl rfl rfl ?_
  refine tX5_isStyle _ hR hV (by omega) (fun g1 f1 s1 => ?_)
  have r1 := hR.sc (scF.s f1)
  have m1 := (scF.s f1).m
  have sb := st_b (ky (zo (zt Z)) (zd (zt Z)))
  refine aw_ifeq_b (tg := 16) dX5_unlike_5 (by decide) (fun h5 => ?_) (fun h5 => ?_)
  · refine aw_aload_n dX5_unlike_16 rfl ?_
    refine aw_V0 dX5_unlike_17 okX5_refuseBad lkX5_62 rfl rfl rfl ?_
    first | refine zX5_refuseBad _ r3 hV (fun g2 r2 m2 => ?_) | refine zX5_refuseBad _ r1 hV (fun g2 r2 m2 => ?_)
    refine aw_iret dX5_unlike_20 rfl ?_
    exact h2 (by omega) g2 r2 (m1.tr m2)
  · refine aw_aload_n dX5_unlike_8 rfl ?_
    refine aw_iload_n dX5_unlike_9 rfl ?_
    refine aw_V1 dX5_unlike_10 okX5_isStyle lkX5_149 rfl rfl rfl ?_
    refine tX5_isStyle _ r1 hV (by omega) (fun g3 f3 s3 => ?_)
    have r3 := r1.sc (scF.s f3)
    have m3 := m1.tr (scF.s f3).m
    refine aw_ifne_b (tg := 21) dX5_unlike_13 (by decide) (fun h13 => ?_) (fun h13 => ?_)
    · refine aw_aload_n dX5_unlike_21 rfl ?_
      refine aw_getR dX5_unlike_22 flX5_26 rfl rfl ?_
      refine aw_getRn dX5_unlike_25 flX5_170 rfl rfl ?_
      refine aw_iload_n dX5_unlike_28 rfl ?_
      refine aw_iald dX5_unlike_29 rfl (by omega) ?_
      rw [s3.2.2 s s (by omega) (by omega) (by omega)]
      refine aw_istore_n (L2 := [_, _, _, _, _, _, _]) dX5_unlike_30 (by decide) rfl rfl ?_
      refine aw_aload_n dX5_unlike_31 rfl ?_
      refine aw_getR dX5_unlike_32 flX5_26 rfl rfl ?_
      refine aw_getRn dX5_unlike_35 flX5_170 rfl rfl ?_
      refine aw_iload_n dX5_unlike_38 rfl ?_
      refine aw_iald dX5_unlike_39 rfl (by omega) ?_
      rw [s3.2.2 q q (by omega) (by omega) (by omega)]
      refine aw_istore (L2 := [_, _, _, _, _, _, _]) dX5_unlike_40 (by decide) rfl rfl ?_
      refine aw_iconst dX5_unlike_42 ?_
      refine aw_istore (L2 := [_, _, _, _, _, _, _]) dX5_unlike_43 (by decide) rfl rfl ?_
      refine aw_iconst dX5_unlike_45 ?_
      refine aw_istore (L2 := [_, _, _, _, _, _, _]) dX5_unlike_46 (by decide) rfl rfl ?_
      exact lX5_unlike _ r3 hV rfl rfl (sb.2.1 s (by omega) (by omega)) (sb.2.1 q (by omega) (by omega)) (h1 (by omega) g3 r3 m3) 4 0 0 (by omega) (by omega) rfl
    · refine aw_aload_n dX5_unlike_16 rfl ?_
      refine aw_V0 dX5_unlike_17 okX5_refuseBad lkX5_62 rfl rfl rfl ?_
      first | refine zX5_refuseBad _ r3 hV (fun g2 r2 m2 => ?_) | refine zX5_refuseBad _ r1 hV (fun g2 r2 m2 => ?_)
      refine aw_iret dX5_unlike_20 rfl ?_
      exact h2 (by omega) g2 r2 (m3.tr m2)
noncomputable def zodd (Z : zZ) (what : Int) : Int := if what = 0 then am (vo (sy (ky (zo (zt Z)) (zd (zt Z))) 24) (zp (zt Z))) (sc (ky (zo (zt Z)) (zd (zt Z))) 24) else am (fun s => - pt (sy (ky (zo (zt Z)) (zd (zt Z))) 24) s) (sc (ky (zo (zt Z)) (zd (zt Z))) 24)
theorem qX5_odd (d : Nat) {B : Int} {Z : zZ} {what : Int} {g : sp_G} {Q : sp_P} (hR : cRep g Z) (hV : zV B Z) (hr : (-2147483648 ≤ what ∧ what < 2147483648)) (h1 : (0 ≤ what ∧ what ≤ 1) → ∀ g2 : sp_G, cRep g2 Z → fMo g g2 → Q (some (v_i (zodd Z what))) g2) (h2 : ¬ ((0 ≤ what ∧ what ≤ 1)) → ∀ g2 : sp_G, cRep g2 (zr 3 Z) → fMo g g2 → Q (some (v_i (-2))) g2) : sp_Met (d + 8) mX5_odd [v_r 0, v_i what] g Q := by
  refine sp_of (L := [_, _]) (by decide) (Nat.le_of_ble_eq_true rfl) rfl rfl ?_
  refine aw_iload_n dX5_odd_0 rfl ?_
  refine aw_iconst dX5_odd_1 ?_
  refine aw_iconst dX5_odd_2 ?_
  refine aw_S3 dX5_odd_3 okX5_within lkX5_58 rfl ?_
  refine tX5_within _ (by omega) ?_
  refine aw_ifne_b (tg := 14) dX5_odd_6 (by decide) (fun h6 => ?_) (fun h6 => ?_)
  · refine aw_aload_n dX5_odd_14 rfl ?_
    refine aw_V0 dX5_odd_15 okX5_sortStyles lkX5_117 rfl rfl rfl ?_
    refine tX5_sortStyles _ hR hV (fun g1 f1 s1 => ?_)
    have r1 := hR.sc (scF.s f1)
    have m1 := (scF.s f1).m
    have sb := st_b (ky (zo (zt Z)) (zd (zt Z)))
    refine aw_iload_n dX5_odd_18 rfl ?_
    refine aw_if_ne (tg := 36) dX5_odd_19 (by decide) (by omega) (fun h19 => ?_) (fun h19 => ?_)
    · refine aw_aload_n dX5_odd_36 rfl ?_
      refine aw_getR dX5_odd_37 flX5_26 rfl rfl ?_
      refine aw_V0 dX5_odd_40 okX3_mostParts lkX5_189 rfl rfl rfl ?_
      refine tX3_mostParts _ sb.1 s1.1 s1.2.1 sb.2.2 (fun g2 f2 => ?_)
      refine aw_iret dX5_odd_43 rfl ?_
      have e := h1 (by omega) g2 (r1.sc (scF.v f2)) (m1.tr (scF.v f2).m)
      unfold zodd at e
      rwa [if_neg (by omega)] at e
    · refine aw_aload_n dX5_odd_22 rfl ?_
      refine aw_getR dX5_odd_23 flX5_26 rfl rfl ?_
      refine aw_aload_n dX5_odd_26 rfl ?_
      refine aw_getR dX5_odd_27 flX5_10 rfl rfl ?_
      refine aw_V1 dX5_odd_30 okX3_fewestVoters lkX5_186 rfl rfl rfl ?_
      refine tX3_fewestVoters _ sb.1 s1.1 s1.2.1 sb.2.2 r1.1.1 hV.1.1 ?_
      refine aw_goto (tg := 43) dX5_odd_33 (by decide) ?_
      refine aw_iret dX5_odd_43 rfl ?_
      have e := h1 (by omega) g1 r1 m1
      unfold zodd at e
      rwa [if_pos (by omega)] at e
  · refine aw_aload_n dX5_odd_9 rfl ?_
    refine aw_V0 dX5_odd_10 okX5_refuseBad lkX5_62 rfl rfl rfl ?_
    refine zX5_refuseBad _ hR hV (fun g2 r2 m2 => ?_)
    refine aw_iret dX5_odd_13 rfl ?_
    exact h2 (by omega) g2 r2 m2
def zq (k v : Int) (Z : zZ) : zZ := (zt Z, zh Z, zc Z, up1 (zn Z) k v, zx Z, zl Z)
theorem zq_V {B k v : Int} {Z : zZ} (h : zV B Z) (hk : (k = 0 ∧ 1 ≤ v ∧ v ≤ 3) ∨ (k = 1 ∧ 4 ≤ v ∧ v ≤ 30) ∨ (k = 2 ∧ 0 ≤ v ∧ v ≤ 3)) : zV B (zq k v Z) := by
  obtain ⟨h1, h2, h3, h4, h5, h6, h7⟩ := h
  refine ⟨h1, h2, h3, ?_, ?_, h6, h7⟩
  · show (1 ≤ up1 (zn Z) k v 0 ∧ up1 (zn Z) k v 0 ≤ 3) ∧ (4 ≤ up1 (zn Z) k v 1 ∧ up1 (zn Z) k v 1 ≤ 30) ∧ (0 ≤ up1 (zn Z) k v 2 ∧ up1 (zn Z) k v 2 ≤ 3)
    rcases hk with ⟨e, e2⟩ | ⟨e, e2⟩ | ⟨e, e2⟩ <;> subst e <;> simp only [up1] <;> simp <;> omega
  · show (0 ≤ up1 (zn Z) k v 3 ∧ up1 (zn Z) k v 3 ≤ B) ∧ (0 ≤ up1 (zn Z) k v 4 ∧ up1 (zn Z) k v 4 ≤ B) ∧ (0 ≤ up1 (zn Z) k v 5 ∧ up1 (zn Z) k v 5 ≤ B)
    rw [up1_n _ _ (by omega), up1_n _ _ (by omega), up1_n _ _ (by omega)]
    exact h5
theorem cRep.pap {g : sp_G} {Z : zZ} {k v : Int} (h : cRep g Z) (hk : 0 ≤ k ∧ k ≤ 2) : cRep (sp_up g 45 k v) (zq k v Z) := by
  obtain ⟨h1, h2, h3, h4, h5, h6, h7, h8⟩ := h
  have hf : sp_fr [45] g (sp_up g 45 k v) := sp_fr.rf.up (by decide)
  have e5 : ∀ p j, p ≠ 45 → sp_up g 45 k v p j = g p j := fun p j hp => sp_up_o _ _ _ _ hp
  refine ⟨h1.fr hf (by decide), by rw [e5 _ _ (by decide)]; exact h2, by rw [e5 _ _ (by decide)]; exact h3, fun j j0 j1 => ?_, ?_, ?_, by rw [e5 _ _ (by decide)]; exact h7, h8.fr hf (by decide)⟩
  · rw [e5 _ _ (by decide)]
    refine (h4 j j0 j1).fr hf (fun x hx => ?_)
    have : x = 45 := by simpa using hx
    omega
  · show sp_up g 45 k v 45 0 = up1 (zn Z) k v 0 ∧ sp_up g 45 k v 45 1 = up1 (zn Z) k v 1 ∧ sp_up g 45 k v 45 2 = up1 (zn Z) k v 2
    rcases (show k = 0 ∨ k = 1 ∨ k = 2 by omega) with e | e | e <;> subst e <;> simp only [sp_up, up1] <;> simp [h5.1, h5.2.1, h5.2.2]
  · rw [e5 _ _ (by decide), e5 _ _ (by decide), e5 _ _ (by decide)]
    show g 0 5 = up1 (zn Z) k v 3 ∧ g 0 6 = up1 (zn Z) k v 4 ∧ g 0 7 = up1 (zn Z) k v 5
    rw [up1_n _ _ (by omega), up1_n _ _ (by omega), up1_n _ _ (by omega)]
    exact h6
theorem qX5_paper (d : Nat) {B : Int} {Z : zZ} {what v : Int} {g : sp_G} {Q : sp_P} (hR : cRep g Z) (hV : zV B Z) (hr : ((-2147483648 ≤ what ∧ what < 2147483648)) ∧ ((-2147483648 ≤ v ∧ v < 2147483648))) (h1 : ((what = 0 ∧ 1 ≤ v ∧ v ≤ 3) ∨ (what = 1 ∧ 4 ≤ v ∧ v ≤ 30) ∨ (what = 2 ∧ 0 ≤ v ∧ v ≤ 3)) → ∀ g2 : sp_G, cRep g2 (zq what v Z) → fMo g g2 → Q (some (v_i (zn Z what))) g2) (h2 : ¬ (((what = 0 ∧ 1 ≤ v ∧ v ≤ 3) ∨ (what = 1 ∧ 4 ≤ v ∧ v ≤ 30) ∨ (what = 2 ∧ 0 ≤ v ∧ v ≤ 3))) → ∀ g2 : sp_G, cRep g2 (zr 3 Z) → fMo g g2 → Q (some (v_i (-2))) g2) : sp_Met (d + 8) mX5_paper [v_r 0, v_i what, v_i v] g Q := by
  refine sp_of (L := [_, _, _]) (by decide) (Nat.le_of_ble_eq_true rfl) rfl rfl ?_
  refine aw_iload_n dX5_paper_0 rfl ?_
  rcases (show what = 0 ∨ what = 1 ∨ what = 2 ∨ (what < 0 ∨ 2 < what) by omega) with h9 | h9 | h9 | h9
  · subst h9
    refine aw_tin (tg := 28) dX5_paper_1 (by omega) (by omega) rfl (by decide) ?_
    refine aw_iload_n dX5_paper_28 rfl ?_
    refine aw_iconst dX5_paper_29 ?_
    refine aw_iconst dX5_paper_30 ?_
    refine aw_S3 dX5_paper_31 okX5_within lkX5_58 rfl ?_
    refine tX5_within _ (by omega) ?_
    refine aw_ifeq_b (tg := 48) dX5_paper_34 (by decide) (fun h34 => ?_) (fun h34 => ?_)
    · refine aw_aload_n dX5_paper_48 rfl ?_
      refine aw_V0 dX5_paper_49 okX5_refuseBad lkX5_62 rfl rfl rfl ?_
      refine zX5_refuseBad _ hR hV (fun g2 r2 m2 => ?_)
      refine aw_iret dX5_paper_52 rfl ?_
      exact h2 (by omega) g2 r2 m2
    · refine aw_aload_n dX5_paper_37 rfl ?_
      refine aw_getR dX5_paper_38 flX5_33 rfl rfl ?_
      refine aw_iload_n dX5_paper_41 rfl ?_
      refine aw_V1 dX5_paper_42 okX0_setColumns lkX5_192 rfl rfl rfl ?_
      refine tX0_setColumns _ ?_
      rw [hR.2.2.2.2.1.1]
      refine aw_goto (tg := 52) dX5_paper_45 (by decide) ?_
      refine aw_iret dX5_paper_52 rfl ?_
      exact h1 (by omega) _ (hR.pap (by omega)) (fMo.rf.up (by decide))
  · subst h9
    refine aw_tin (tg := 53) dX5_paper_1 (by omega) (by omega) rfl (by decide) ?_
    refine aw_iload_n dX5_paper_53 rfl ?_
    refine aw_iconst dX5_paper_54 ?_
    refine aw_bipush dX5_paper_55 (by decide) ?_
    refine aw_S3 dX5_paper_57 okX5_within lkX5_58 rfl ?_
    refine tX5_within _ (by omega) ?_
    refine aw_ifeq_b (tg := 74) dX5_paper_60 (by decide) (fun h60 => ?_) (fun h60 => ?_)
    · refine aw_aload_n dX5_paper_74 rfl ?_
      refine aw_V0 dX5_paper_75 okX5_refuseBad lkX5_62 rfl rfl rfl ?_
      refine zX5_refuseBad _ hR hV (fun g2 r2 m2 => ?_)
      refine aw_iret dX5_paper_78 rfl ?_
      exact h2 (by omega) g2 r2 m2
    · refine aw_aload_n dX5_paper_63 rfl ?_
      refine aw_getR dX5_paper_64 flX5_33 rfl rfl ?_
      refine aw_iload_n dX5_paper_67 rfl ?_
      refine aw_V1 dX5_paper_68 okX0_setDepth lkX5_195 rfl rfl rfl ?_
      refine tX0_setDepth _ ?_
      rw [hR.2.2.2.2.1.2.1]
      refine aw_goto (tg := 78) dX5_paper_71 (by decide) ?_
      refine aw_iret dX5_paper_78 rfl ?_
      exact h1 (by omega) _ (hR.pap (by omega)) (fMo.rf.up (by decide))
  · subst h9
    refine aw_tin (tg := 79) dX5_paper_1 (by omega) (by omega) rfl (by decide) ?_
    refine aw_iload_n dX5_paper_79 rfl ?_
    refine aw_iconst dX5_paper_80 ?_
    refine aw_iconst dX5_paper_81 ?_
    refine aw_S3 dX5_paper_82 okX5_within lkX5_58 rfl ?_
    refine tX5_within _ (by omega) ?_
    refine aw_ifeq_b (tg := 99) dX5_paper_85 (by decide) (fun h85 => ?_) (fun h85 => ?_)
    · refine aw_aload_n dX5_paper_99 rfl ?_
      refine aw_V0 dX5_paper_100 okX5_refuseBad lkX5_62 rfl rfl rfl ?_
      refine zX5_refuseBad _ hR hV (fun g2 r2 m2 => ?_)
      refine aw_iret dX5_paper_103 rfl ?_
      exact h2 (by omega) g2 r2 m2
    · refine aw_aload_n dX5_paper_88 rfl ?_
      refine aw_getR dX5_paper_89 flX5_33 rfl rfl ?_
      refine aw_iload_n dX5_paper_92 rfl ?_
      refine aw_V1 dX5_paper_93 okX0_setRule lkX5_198 rfl rfl rfl ?_
      refine tX0_setRule _ ?_
      rw [hR.2.2.2.2.1.2.2]
      refine aw_goto (tg := 103) dX5_paper_96 (by decide) ?_
      refine aw_iret dX5_paper_103 rfl ?_
      exact h1 (by omega) _ (hR.pap (by omega)) (fMo.rf.up (by decide))
  · refine aw_tout (tg := 104) dX5_paper_1 (by omega) (by omega) (by decide) ?_
    refine aw_aload_n dX5_paper_104 rfl ?_
    refine aw_V0 dX5_paper_105 okX5_refuseBad lkX5_62 rfl rfl rfl ?_
    refine zX5_refuseBad _ hR hV (fun g2 r2 m2 => ?_)
    refine aw_iret dX5_paper_108 rfl ?_
    exact h2 (by omega) g2 r2 m2
