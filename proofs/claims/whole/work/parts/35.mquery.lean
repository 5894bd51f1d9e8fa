theorem rX6_of (d : Nat) {B : Int} {Z : zZ} {a what : Int} {g : sp_G} {Q : sp_P} (hR : mRep g Z) (hV : zV B Z) (hr : ((-2147483648 ≤ a ∧ a < 2147483648)) ∧ ((-2147483648 ≤ what ∧ what < 2147483648))) (h1 : ((0 ≤ a ∧ a ≤ 23) ∧ (0 ≤ what ∧ what ≤ 5)) → ∀ g2 : sp_G, mRep g2 Z → fCo g g2 → Q (some (v_i (if what = 0 then (zp (zt Z)) a else if what = 1 then (sy (ky (zo (zt Z)) (zd (zt Z))) 24) a else (zd (zt Z)) ((what - 2) * 24 + a)))) g2) (h2 : ¬ (((0 ≤ a ∧ a ≤ 23) ∧ (0 ≤ what ∧ what ≤ 5))) → ∀ g2 : sp_G, mRep g2 (zr 3 Z) → fCo g g2 → Q (some (v_i (-2))) g2) : sp_Met (d + 8) mX6_of [v_r 52, v_i a, v_i what] g Q := by
  refine sp_of (L := [_, _, _]) (by decide) (Nat.le_of_ble_eq_true rfl) rfl rfl ?_
  refine aw_iload_n dX6_of_0 rfl ?_
  refine aw_S1 dX6_of_1 okX6_isBlock lkX6_85 rfl ?_
  refine tX6_isBlock _ (by omega) ?_
  refine aw_ifeq_b (tg := 16) dX6_of_4 (by decide) (fun h4 => ?_) (fun h4 => ?_)
  · refine aw_aload_n dX6_of_16 rfl ?_
    refine aw_bipush dX6_of_17 (by decide) ?_
    refine aw_V1 dX6_of_19 okX6_refuses lkX6_68 rfl rfl rfl ?_
    refine zX6_ref0 _ hR hV (fun g2 r2 c2 => ?_)
    refine aw_iret dX6_of_22 rfl ?_
    exact h2 (by omega) g2 r2 c2
  · refine aw_iload_n dX6_of_7 rfl ?_
    refine aw_iconst dX6_of_8 ?_
    refine aw_iconst dX6_of_9 ?_
    refine aw_S3 dX6_of_10 okX6_in lkX6_53 rfl ?_
    refine tX6_in _ (by omega) ?_
    refine aw_ifne_b (tg := 23) dX6_of_13 (by decide) (fun h13 => ?_) (fun h13 => ?_)
    · refine aw_aload_n dX6_of_23 rfl ?_
      refine aw_V0 dX6_of_24 okX6_finds lkX6_112 rfl rfl rfl ?_
      refine zX6_finds _ hR hV (fun g1 f1 s1 => ?_)
      have r1 := hR.sc f1.sc
      have c1 := f1.sc.c
      have sb := st_b (ky (zo (zt Z)) (zd (zt Z)))
      refine aw_iload_n dX6_of_27 rfl ?_
      refine aw_if_ne (tg := 40) dX6_of_28 (by decide) (by omega) (fun h28 => ?_) (fun h28 => ?_)
      · refine aw_iload_n dX6_of_40 rfl ?_
        refine aw_iconst dX6_of_41 ?_
        refine aw_icmp_ne (tg := 54) dX6_of_42 (by decide) (by omega) (fun h42 => ?_) (fun h42 => ?_)
        · refine aw_aload_n dX6_of_54 rfl ?_
          refine aw_iload_n dX6_of_55 rfl ?_
          refine aw_iconst dX6_of_56 ?_
          refine aw_isub dX6_of_57 ?_
          refine aw_iload_n dX6_of_58 rfl ?_
          refine aw_V2 dX6_of_59 okX6_district lkX6_79 rfl rfl rfl ?_
          refine tX6_district _ r1.di (by omega) ?_
          refine aw_iret dX6_of_62 rfl ?_
          have e9 := h1 (by omega) g1 r1 c1
          rwa [if_neg (by omega), if_neg (by omega)] at e9
        · refine aw_aload_n dX6_of_45 rfl ?_
          refine aw_getR dX6_of_46 flX6_32 rfl rfl ?_
          refine aw_iload_n dX6_of_49 rfl ?_
          refine aw_iald dX6_of_50 rfl (by omega) ?_
          rw [s1.2.1 a a (by omega) (by omega) (by omega)]
          refine aw_goto (tg := 62) dX6_of_51 (by decide) ?_
          refine aw_iret dX6_of_62 rfl ?_
          have e9 := h1 (by omega) g1 r1 c1
          rwa [if_neg (by omega), if_pos (by omega)] at e9
      · refine aw_aload_n dX6_of_31 rfl ?_
        refine aw_getR dX6_of_32 flX6_7 rfl rfl ?_
        refine aw_iload_n dX6_of_35 rfl ?_
        refine aw_iald dX6_of_36 rfl (by omega) ?_
        rw [r1.pe a a (by omega) (by omega) (by omega)]
        refine aw_goto (tg := 62) dX6_of_37 (by decide) ?_
        refine aw_iret dX6_of_62 rfl ?_
        have e9 := h1 (by omega) g1 r1 c1
        rwa [if_pos (by omega)] at e9
    · refine aw_aload_n dX6_of_16 rfl ?_
      refine aw_bipush dX6_of_17 (by decide) ?_
      refine aw_V1 dX6_of_19 okX6_refuses lkX6_68 rfl rfl rfl ?_
      refine zX6_ref0 _ hR hV (fun g2 r2 c2 => ?_)
      refine aw_iret dX6_of_22 rfl ?_
      exact h2 (by omega) g2 r2 c2
theorem rX6_styles (d : Nat) {B : Int} {Z : zZ}  {g : sp_G} {Q : sp_P} (hR : mRep g Z) (hV : zV B Z)  (h1 : ∀ g2 : sp_G, mRep g2 Z → fCo g g2 → Q (some (v_i ((sc (ky (zo (zt Z)) (zd (zt Z))) 24)))) g2)  : sp_Met (d + 8) mX6_styles [v_r 52] g Q := by
  refine sp_of (L := [_]) (by decide) (Nat.le_of_ble_eq_true rfl) rfl rfl ?_
  refine aw_aload_n dX6_styles_0 rfl ?_
  refine aw_V0 dX6_styles_1 okX6_finds lkX6_112 rfl rfl rfl ?_
  refine zX6_finds _ hR hV (fun g1 f1 s1 => ?_)
  have r1 := hR.sc f1.sc
  have c1 := f1.sc.c
  have sb := st_b (ky (zo (zt Z)) (zd (zt Z)))
  refine aw_aload_n dX6_styles_4 rfl ?_
  refine aw_getI (kz := 12) dX6_styles_5 flX6_152 rfl rfl rfl ?_
  rw [s1.1]
  refine aw_iret dX6_styles_8 rfl ?_
  exact h1 g1 r1 c1
theorem rX6_style (d : Nat) {B : Int} {Z : zZ} {s what : Int} {g : sp_G} {Q : sp_P} (hR : mRep g Z) (hV : zV B Z) (hr : ((-2147483648 ≤ s ∧ s < 2147483648)) ∧ ((-2147483648 ≤ what ∧ what < 2147483648))) (h1 : ((0 ≤ s ∧ s ≤ (sc (ky (zo (zt Z)) (zd (zt Z))) 24) - 1) ∧ (0 ≤ what ∧ what ≤ 4)) → ∀ g2 : sp_G, mRep g2 Z → fCo g g2 → Q (some (v_i (zsty Z s what))) g2) (h2 : ¬ (((0 ≤ s ∧ s ≤ (sc (ky (zo (zt Z)) (zd (zt Z))) 24) - 1) ∧ (0 ≤ what ∧ what ≤ 4))) → ∀ g2 : sp_G, mRep g2 (zr 3 Z) → fCo g g2 → Q (some (v_i (-2))) g2) : sp_Met (d + 8) mX6_style [v_r 52, v_i s, v_i what] g Q := by
  refine sp_of (L := [_, _, _]) (by decide) (Nat.le_of_ble_eq_true rfl) rfl rfl ?_
  refine aw_aload_n dX6_style_0 rfl ?_
  refine aw_iload_n dX6_style_1 rfl ?_
  refine aw_V1 dX6_style_2 okX6_isStyle lkX6_161 rfl rfl rfl ?_
  refine zX6_isStyle _ hR hV (by omega) (fun g1 f1 s1 => ?_)
  have r1 := hR.sc f1.sc
  have c1 := f1.sc.c
  have sb := st_b (ky (zo (zt Z)) (zd (zt Z)))
  refine aw_ifeq_b (tg := 17) dX6_style_5 (by decide) (fun h5 => ?_) (fun h5 => ?_)
  · refine aw_aload_n dX6_style_17 rfl ?_
    refine aw_bipush dX6_style_18 (by decide) ?_
    refine aw_V1 dX6_style_20 okX6_refuses lkX6_68 rfl rfl rfl ?_
    refine zX6_ref0 _ r1 hV (fun g2 r2 c2 => ?_)
    refine aw_iret dX6_style_23 rfl ?_
    exact h2 (by omega) g2 r2 (c1.tr c2)
  · refine aw_iload_n dX6_style_8 rfl ?_
    refine aw_iconst dX6_style_9 ?_
    refine aw_iconst dX6_style_10 ?_
    refine aw_S3 dX6_style_11 okX6_in lkX6_53 rfl ?_
    refine tX6_in _ (by omega) ?_
    refine aw_ifne_b (tg := 24) dX6_style_14 (by decide) (fun h14 => ?_) (fun h14 => ?_)
    · refine aw_iload_n dX6_style_24 rfl ?_
      rcases (show what = 0 ∨ what = 1 ∨ what = 2 ∨ what = 3 ∨ what = 4 by omega) with h9 | h9 | h9 | h9 | h9
      · subst h9
        refine aw_tin (tg := 56) dX6_style_25 (by omega) (by omega) rfl (by decide) ?_
        refine aw_aload_n dX6_style_56 rfl ?_
        refine aw_iload_n dX6_style_57 rfl ?_
        refine aw_V1 dX6_style_58 okX6_blocksOf lkX6_164 rfl rfl rfl ?_
        refine tX6_blocksOf _ s1.2.1 sb.2.2 (by omega) ?_
        refine aw_iret dX6_style_61 rfl ?_
        exact h1 (by omega) g1 r1 c1
      · subst h9
        refine aw_tin (tg := 62) dX6_style_25 (by omega) (by omega) rfl (by decide) ?_
        refine aw_aload_n dX6_style_62 rfl ?_
        refine aw_iload_n dX6_style_63 rfl ?_
        refine aw_V1 dX6_style_64 okX6_votersOf lkX6_167 rfl rfl rfl ?_
        refine tX6_votersOf _ s1.2.1 sb.2.2 (by omega) r1.pe ?_
        refine aw_iret dX6_style_67 rfl ?_
        exact h1 (by omega) g1 r1 c1
      · subst h9
        refine aw_tin (tg := 68) dX6_style_25 (by omega) (by omega) rfl (by decide) ?_
        refine aw_aload_n dX6_style_68 rfl ?_
        refine aw_iload_n dX6_style_69 rfl ?_
        refine aw_V1 dX6_style_70 okX6_partsOf lkX6_170 rfl rfl rfl ?_
        refine tX6_partsOf _ sb.2.2 (by omega) s1.2.1 (fun g2 f2 => ?_)
        refine aw_iret dX6_style_73 rfl ?_
        exact h1 (by omega) g2 (r1.sc ⟨f2.wk (by decide), f2 52 (by decide) 2, f2 52 (by decide) 6⟩) (c1.tr (fCo.fr f2 (by decide)))
      · subst h9
        refine aw_tin (tg := 74) dX6_style_25 (by omega) (by omega) rfl (by decide) ?_
        refine aw_aload_n dX6_style_74 rfl ?_
        refine aw_V0 dX6_style_75 okX6_contestsOn lkX6_173 rfl rfl rfl ?_
        refine zX6_contestsOn _ r1 hV ?_
        refine aw_iret dX6_style_78 rfl ?_
        exact h1 (by omega) g1 r1 c1
      · subst h9
        refine aw_tout (tg := 79) dX6_style_25 (by omega) (by omega) (by decide) ?_
        refine aw_aload_n dX6_style_79 rfl ?_
        refine aw_getR dX6_style_80 flX6_35 rfl rfl ?_
        refine aw_iload_n dX6_style_83 rfl ?_
        refine aw_iald dX6_style_84 rfl (by omega) ?_
        rw [s1.2.2 s s (by omega) (by omega) (by omega)]
        refine aw_iret dX6_style_85 rfl ?_
        exact h1 (by omega) g1 r1 c1
    · refine aw_aload_n dX6_style_17 rfl ?_
      refine aw_bipush dX6_style_18 (by decide) ?_
      refine aw_V1 dX6_style_20 okX6_refuses lkX6_68 rfl rfl rfl ?_
      refine zX6_ref0 _ r1 hV (fun g2 r2 c2 => ?_)
      refine aw_iret dX6_style_23 rfl ?_
      exact h2 (by omega) g2 r2 (c1.tr c2)
theorem rX6_without (d : Nat) {B : Int} {Z : zZ} {l : Int} {g : sp_G} {Q : sp_P} (hR : mRep g Z) (hV : zV B Z) (hr : (-2147483648 ≤ l ∧ l < 2147483648)) (h1 : (0 ≤ l ∧ l ≤ 3) → ∀ g2 : sp_G, mRep g2 Z → fCo g g2 → Q (some (v_i (sc (ky (sp_xor (zo (zt Z)) (sp_shl 1 l)) (zd (zt Z))) 24))) g2) (h2 : ¬ ((0 ≤ l ∧ l ≤ 3)) → ∀ g2 : sp_G, mRep g2 (zr 3 Z) → fCo g g2 → Q (some (v_i (-2))) g2) : sp_Met (d + 8) mX6_without [v_r 52, v_i l] g Q := by
  refine sp_of (L := [_, _, _]) (by decide) (Nat.le_of_ble_eq_true rfl) rfl rfl ?_
  refine aw_iload_n dX6_without_0 rfl ?_
  refine aw_S1 dX6_without_1 okX6_isLayer lkX6_65 rfl ?_
  refine tX6_isLayer _ (by omega) ?_
  refine aw_ifne_b (tg := 14) dX6_without_4 (by decide) (fun h4 => ?_) (fun h4 => ?_)
  · refine aw_aload_n dX6_without_14 rfl ?_
    refine aw_getR dX6_without_15 flX6_7 rfl rfl ?_
    refine aw_sipush dX6_without_18 (by decide) ?_
    refine aw_iald dX6_without_21 rfl (by omega) ?_
    rw [hR.on]
    refine aw_istore_n (L2 := [_, _, _]) dX6_without_22 (by decide) rfl rfl ?_
    refine aw_aload_n dX6_without_23 rfl ?_
    refine aw_getR dX6_without_24 flX6_7 rfl rfl ?_
    refine aw_sipush dX6_without_27 (by decide) ?_
    refine aw_dup2 dX6_without_30 rfl rfl ?_
    refine aw_iald dX6_without_31 rfl (by omega) ?_
    rw [hR.on]
    refine aw_iconst dX6_without_32 ?_
    refine aw_iload_n dX6_without_33 rfl ?_
    refine aw_ishl dX6_without_34 ?_
    refine aw_ixor dX6_without_35 ?_
    refine aw_iast dX6_without_36 rfl (by omega) ?_
    refine aw_aload_n dX6_without_37 rfl ?_
    refine aw_V0 dX6_without_38 okX6_finds lkX6_112 rfl rfl rfl ?_
    refine tX6_finds _ (on := sp_xor (zo (zt Z)) (sp_shl 1 l)) hV.1.2.1 (fun q q0 q1 => bt_01 (xr_b hV.1.2.2.2 (by omega)) ⟨q0, q1⟩) (hR.di.out (by omega)) (sp_up_s _ _ _ _) (fun g1 f1 s1 => ?_)
    refine aw_aload_n dX6_without_41 rfl ?_
    refine aw_getR dX6_without_42 flX6_7 rfl rfl ?_
    refine aw_sipush dX6_without_45 (by decide) ?_
    refine aw_iload_n dX6_without_48 rfl ?_
    refine aw_iast dX6_without_49 rfl (by omega) ?_
    refine aw_aload_n dX6_without_50 rfl ?_
    refine aw_getI (kz := 12) dX6_without_51 flX6_152 rfl rfl rfl ?_
    refine aw_iret dX6_without_54 rfl ?_
    rw [sp_up_o _ _ _ _ (by decide), s1.1]
    have hf : ∀ p j, p ∉ [52, 60, 61] → g1 p j = sp_up g 53 144 (sp_xor (zo (zt Z)) (sp_shl 1 l)) p j := fun p j hp => f1.1 p hp j
    have hrow : ∀ j, sp_up g1 53 144 (zo (zt Z)) 53 j = g 53 j := fun j => by
      by_cases hj : j = 144
      · rw [hj, sp_up_s, hR.on]
      · rw [sp_up_i _ _ _ _ hj, hf 53 j (by decide), sp_up_i _ _ _ _ hj]
    refine h1 (by omega) _ (hR.sc ⟨fun p hp j => ?_, ?_, ?_⟩) (fun p hp j => ?_)
    · by_cases h53 : p = 53
      · rw [h53]; exact hrow j
      · rw [sp_up_o _ _ _ _ h53, hf p j (fun q => hp (by revert q; simp; omega)), sp_up_o _ _ _ _ h53]
    · rw [sp_up_o _ _ _ _ (by decide), f1.2 2 (by decide), sp_up_o _ _ _ _ (by decide)]
    · rw [sp_up_o _ _ _ _ (by decide), f1.2 6 (by decide), sp_up_o _ _ _ _ (by decide)]
    · rw [sp_up_o _ _ _ _ (by omega), hf p j (by simp; omega), sp_up_o _ _ _ _ (by omega)]
  · refine aw_aload_n dX6_without_7 rfl ?_
    refine aw_bipush dX6_without_8 (by decide) ?_
    refine aw_V1 dX6_without_10 okX6_refuses lkX6_68 rfl rfl rfl ?_
    refine zX6_ref0 _ hR hV (fun g2 r2 c2 => ?_)
    refine aw_iret dX6_without_13 rfl ?_
    exact h2 (by omega) g2 r2 c2
theorem lX6_bo_in (d : Nat) {y : Int → Int} {a m0 : Int} {g : sp_G} {Q : sp_P} (hy : rH g 60 0 24 y) (hyb : ∀ a, 0 ≤ a → a < 24 → 0 ≤ y a ∧ y a < 24) (ha : 0 ≤ a ∧ a < 24) (hk : ∀ bx : Option sp_V, sp_nl bx = true → sp_AW mX6_borderOf (d + 1) 61 [some (v_r 52), some (v_i (m0 + bd y a)), some (v_i a), bx] [] g Q) :
    ∀ (n : Nat) (b m : Int), a + 1 ≤ b → b + n = 24 → m = m0 + sI (mF y a) b → sp_AW mX6_borderOf (d + 1) 18 [some (v_r 52), some (v_i m), some (v_i a), some (v_i b)] [] g Q := by
  intro n
  induction n with
  | zero =>
    intro b m h0 hn em
    have eb : b = 24 := by omega
    subst eb
    rw [mF_bd y ha] at em
    refine aw_iload_n dX6_borderOf_18 rfl ?_
    refine aw_bipush dX6_borderOf_19 (by decide) ?_
    refine aw_icmp_ge (tg := 61) dX6_borderOf_21 (by decide) (by omega) (fun h21 => ?_) (fun h21 => absurd h21 (by omega))
    rw [em]
    exact hk _ rfl
  | succ n ih =>
    intro b m h0 hn em
    have e1 := hy a a ha.1 ha.2 (by omega)
    have e2 := hy b b (by omega) (by omega) (by omega)
    have b1 := hyb a ha.1 ha.2
    have b2 := hyb b (by omega) (by omega)
    have hs := sI_s (mF y a) (a := b) (by omega)
    refine aw_iload_n dX6_borderOf_18 rfl ?_
    refine aw_bipush dX6_borderOf_19 (by decide) ?_
    refine aw_icmp_ge (tg := 61) dX6_borderOf_21 (by decide) (by omega) (fun h21 => absurd h21 (by omega)) (fun h21 => ?_)
    refine aw_iload_n dX6_borderOf_24 rfl ?_
    refine aw_iload_n dX6_borderOf_25 rfl ?_
    refine aw_iload_n dX6_borderOf_26 rfl ?_
    refine aw_S2 dX6_borderOf_27 okX6_isBeside lkX6_158 rfl ?_
    refine tX6_isBeside _ ha (by omega) ?_
    refine aw_ifeq_b (tg := 52) dX6_borderOf_30 (by decide) (fun h30 => ?_) (fun h30 => ?_)
    · refine aw_iconst dX6_borderOf_52 ?_
      refine aw_iadd dX6_borderOf_53 ?_
      refine aw_istore_n (L2 := [_, _, _, _]) dX6_borderOf_54 (by decide) rfl rfl ?_
      refine aw_iinc (L2 := [_, _, _, _]) dX6_borderOf_55 rfl (by decide) rfl rfl ?_
      refine aw_goto (tg := 18) dX6_borderOf_58 (by decide) ?_
      rw [show mF y a b = 0 from if_neg (fun k => h30 k.2.1)] at hs
      exact ih (b + 1) _ (by omega) (by omega) (by omega)
    · refine aw_aload_n dX6_borderOf_33 rfl ?_
      refine aw_getR dX6_borderOf_34 flX6_32 rfl rfl ?_
      refine aw_iload_n dX6_borderOf_37 rfl ?_
      refine aw_iald dX6_borderOf_38 rfl (by omega) ?_
      rw [e1]
      refine aw_aload_n dX6_borderOf_39 rfl ?_
      refine aw_getR dX6_borderOf_40 flX6_32 rfl rfl ?_
      refine aw_iload_n dX6_borderOf_43 rfl ?_
      refine aw_iald dX6_borderOf_44 rfl (by omega) ?_
      rw [e2]
      refine aw_icmp_eq (tg := 52) dX6_borderOf_45 (by decide) (by omega) (fun h45 => ?_) (fun h45 => ?_)
      · refine aw_iconst dX6_borderOf_52 ?_
        refine aw_iadd dX6_borderOf_53 ?_
        refine aw_istore_n (L2 := [_, _, _, _]) dX6_borderOf_54 (by decide) rfl rfl ?_
        refine aw_iinc (L2 := [_, _, _, _]) dX6_borderOf_55 rfl (by decide) rfl rfl ?_
        refine aw_goto (tg := 18) dX6_borderOf_58 (by decide) ?_
        rw [show mF y a b = 0 from if_neg (fun k => k.2.2 h45)] at hs
        exact ih (b + 1) _ (by omega) (by omega) (by omega)
      · refine aw_iconst dX6_borderOf_48 ?_
        refine aw_goto (tg := 53) dX6_borderOf_49 (by decide) ?_
        refine aw_iadd dX6_borderOf_53 ?_
        refine aw_istore_n (L2 := [_, _, _, _]) dX6_borderOf_54 (by decide) rfl rfl ?_
        refine aw_iinc (L2 := [_, _, _, _]) dX6_borderOf_55 rfl (by decide) rfl rfl ?_
        refine aw_goto (tg := 18) dX6_borderOf_58 (by decide) ?_
        rw [show mF y a b = 1 from if_pos ⟨by omega, h30, h45⟩] at hs
        exact ih (b + 1) _ (by omega) (by omega) (by omega)
theorem lX6_bo (d : Nat) {y : Int → Int} {g : sp_G} {Q : sp_P} (hy : rH g 60 0 24 y) (hyb : ∀ a, 0 ≤ a → a < 24 → 0 ≤ y a ∧ y a < 24) (hQ : Q (some (v_i (sI (bd y) 24))) g) :
    ∀ (n : Nat) (a m : Int) (bx : Option sp_V), 0 ≤ a → a + n = 24 → m = sI (bd y) a → sp_nl bx = true → sp_AW mX6_borderOf (d + 1) 8 [some (v_r 52), some (v_i m), some (v_i a), bx] [] g Q := by
  intro n
  induction n with
  | zero =>
    intro a m bx h0 hn em hbx
    have ea : a = 24 := by omega
    subst ea
    refine aw_iload_n dX6_borderOf_8 rfl ?_
    refine aw_bipush dX6_borderOf_9 (by decide) ?_
    refine aw_icmp_ge (tg := 67) dX6_borderOf_11 (by decide) (by omega) (fun h11 => ?_) (fun h11 => absurd h11 (by omega))
    refine aw_iload_n dX6_borderOf_67 rfl ?_
    refine aw_iret dX6_borderOf_68 rfl ?_
    rw [em]
    exact hQ
  | succ n ih =>
    intro a m bx h0 hn em hbx
    refine aw_iload_n dX6_borderOf_8 rfl ?_
    refine aw_bipush dX6_borderOf_9 (by decide) ?_
    refine aw_icmp_ge (tg := 67) dX6_borderOf_11 (by decide) (by omega) (fun h11 => absurd h11 (by omega)) (fun h11 => ?_)
    refine aw_iload_n dX6_borderOf_14 rfl ?_
    refine aw_iconst dX6_borderOf_15 ?_
    refine aw_iadd dX6_borderOf_16 ?_
    refine aw_istore_n (L2 := [_, _, _, _]) dX6_borderOf_17 (by decide) rfl rfl ?_
    refine lX6_bo_in d hy hyb (by omega) (m0 := m) (fun bx hbx => ?_) (23 - a).toNat (a + 1) _ (by omega) (by omega) ?_
    · refine aw_iinc (L2 := [_, _, _, _]) dX6_borderOf_61 rfl (by decide) rfl rfl ?_
      refine aw_goto (tg := 8) dX6_borderOf_64 (by decide) ?_
      exact ih (a + 1) _ _ (by omega) (by omega) (by rw [sI_s _ h0, em]) hbx
    · rw [sI_f (f := mF y a) (x := 0) (y := a + 1) (by omega) (by omega) (fun i i0 i1 => if_neg (by omega)), sI_0]
      omega
theorem zX6_borderOf (d : Nat) {B : Int} {Z : zZ} {g : sp_G} {Q : sp_P} (hR : mRep g Z) (hV : zV B Z) (hQ : ∀ g2 : sp_G, fF g g2 → stM g2 (ky (zo (zt Z)) (zd (zt Z))) → Q (some (v_i (sI (bd (sy (ky (zo (zt Z)) (zd (zt Z))) 24)) 24))) g2) : sp_Met (d + 3) mX6_borderOf [v_r 52] g Q := by
  refine sp_of (L := [_, _, _, _]) (by decide) (Nat.le_of_ble_eq_true rfl) rfl rfl ?_
  refine aw_aload_n dX6_borderOf_0 rfl ?_
  refine aw_V0 dX6_borderOf_1 okX6_finds lkX6_112 rfl rfl rfl ?_
  refine zX6_finds _ hR hV (fun g1 f1 s1 => ?_)
  have r1 := hR.sc f1.sc
  have c1 := f1.sc.c
  have sb := st_b (ky (zo (zt Z)) (zd (zt Z)))
  refine aw_iconst dX6_borderOf_4 ?_
  refine aw_istore_n (L2 := [_, _, _, _]) dX6_borderOf_5 (by decide) rfl rfl ?_
  refine aw_iconst dX6_borderOf_6 ?_
  refine aw_istore_n (L2 := [_, _, _, _]) dX6_borderOf_7 (by decide) rfl rfl ?_
  exact lX6_bo _ s1.2.1 sb.2.2 (hQ g1 f1 s1) 24 0 0 _ (by omega) (by omega) rfl rfl
theorem rX6_border (d : Nat) {B : Int} {Z : zZ}  {g : sp_G} {Q : sp_P} (hR : mRep g Z) (hV : zV B Z)  (h1 : ∀ g2 : sp_G, mRep g2 Z → fCo g g2 → Q (some (v_i (sI (bd (sy (ky (zo (zt Z)) (zd (zt Z))) 24)) 24))) g2)  : sp_Met (d + 8) mX6_border [v_r 52] g Q := by
  refine sp_of (L := [_]) (by decide) (Nat.le_of_ble_eq_true rfl) rfl rfl ?_
  refine aw_aload_n dX6_border_0 rfl ?_
  refine aw_V0 dX6_border_1 okX6_borderOf lkX6_176 rfl rfl rfl ?_
  refine zX6_borderOf _ hR hV (fun g1 f1 s1 => ?_)
  refine aw_iret dX6_border_4 rfl ?_
  exact h1 g1 (hR.sc f1.sc) f1.sc.c
theorem lX6_be_in (d : Nat) {y : Int → Int} {s q a m0 : Int} {g : sp_G} {Q : sp_P} (hy : rH g 60 0 24 y) (hyb : ∀ a, 0 ≤ a → a < 24 → 0 ≤ y a ∧ y a < 24) (hs : 0 ≤ s ∧ s < 24) (hq : 0 ≤ q ∧ q < 24) (ha : 0 ≤ a ∧ a < 24) (hk : ∀ bx : Option sp_V, sp_AW mX6_beside (d + 1) 96 [some (v_r 52), some (v_i s), some (v_i q), some (v_i (m0 + sI (oF y s q a) 24)), some (v_i a), bx] [] g Q) :
    ∀ (n : Nat) (b m : Int), 0 ≤ b → b + n = 24 → m = m0 + sI (oF y s q a) b → sp_AW mX6_beside (d + 1) 43 [some (v_r 52), some (v_i s), some (v_i q), some (v_i m), some (v_i a), some (v_i b)] [] g Q := by
  intro n
  induction n with
  | zero =>
    intro b m h0 hn em
    have eb : b = 24 := by omega
    subst eb
    refine aw_iload dX6_beside_43 rfl ?_
    refine aw_bipush dX6_beside_45 (by decide) ?_
    refine aw_icmp_ge (tg := 96) dX6_beside_47 (by decide) (by omega) (fun h47 => ?_) (fun h47 => absurd h47 (by omega))
    rw [em]
    exact hk _
  | succ n ih =>
    intro b m h0 hn em
    have e1 := hy a a ha.1 ha.2 (by omega)
    have e2 := hy b b (by omega) (by omega) (by omega)
    have b1 := hyb a ha.1 ha.2
    have b2 := hyb b (by omega) (by omega)
    have hss := sI_s (oF y s q a) (a := b) (by omega)
    refine aw_iload dX6_beside_43 rfl ?_
    refine aw_bipush dX6_beside_45 (by decide) ?_
    refine aw_icmp_ge (tg := 96) dX6_beside_47 (by decide) (by omega) (fun h47 => absurd h47 (by omega)) (fun h47 => ?_)
    refine aw_iload_n dX6_beside_50 rfl ?_
    refine aw_iload dX6_beside_51 rfl ?_
    refine aw_iload dX6_beside_53 rfl ?_
    refine aw_S2 dX6_beside_55 okX6_isBeside lkX6_158 rfl ?_
    refine tX6_isBeside _ ha (by omega) ?_
    refine aw_ifeq_b (tg := 87) dX6_beside_58 (by decide) (fun h58 => ?_) (fun h58 => ?_)
    · refine aw_iconst dX6_beside_87 ?_
      refine aw_iadd dX6_beside_88 ?_
      refine aw_istore_n (L2 := [_, _, _, _, _, _]) dX6_beside_89 (by decide) rfl rfl ?_
      refine aw_iinc (L2 := [_, _, _, _, _, _]) dX6_beside_90 rfl (by decide) rfl rfl ?_
      refine aw_goto (tg := 43) dX6_beside_93 (by decide) ?_
      rw [show oF y s q a b = 0 from if_neg (fun k => h58 k.1)] at hss
      exact ih (b + 1) _ (by omega) (by omega) (by omega)
    · refine aw_aload_n dX6_beside_61 rfl ?_
      refine aw_getR dX6_beside_62 flX6_32 rfl rfl ?_
      refine aw_iload dX6_beside_65 rfl ?_
      refine aw_iald dX6_beside_67 rfl (by omega) ?_
      rw [e1]
      refine aw_iload_n dX6_beside_68 rfl ?_
      refine aw_icmp_ne (tg := 87) dX6_beside_69 (by decide) (by omega) (fun h69 => ?_) (fun h69 => ?_)
      · refine aw_iconst dX6_beside_87 ?_
        refine aw_iadd dX6_beside_88 ?_
        refine aw_istore_n (L2 := [_, _, _, _, _, _]) dX6_beside_89 (by decide) rfl rfl ?_
        refine aw_iinc (L2 := [_, _, _, _, _, _]) dX6_beside_90 rfl (by decide) rfl rfl ?_
        refine aw_goto (tg := 43) dX6_beside_93 (by decide) ?_
        rw [show oF y s q a b = 0 from if_neg (fun k => h69 k.2.1)] at hss
        exact ih (b + 1) _ (by omega) (by omega) (by omega)
      · refine aw_aload_n dX6_beside_72 rfl ?_
        refine aw_getR dX6_beside_73 flX6_32 rfl rfl ?_
        refine aw_iload dX6_beside_76 rfl ?_
        refine aw_iald dX6_beside_78 rfl (by omega) ?_
        rw [e2]
        refine aw_iload_n dX6_beside_79 rfl ?_
        refine aw_icmp_ne (tg := 87) dX6_beside_80 (by decide) (by omega) (fun h80 => ?_) (fun h80 => ?_)
        · refine aw_iconst dX6_beside_87 ?_
          refine aw_iadd dX6_beside_88 ?_
          refine aw_istore_n (L2 := [_, _, _, _, _, _]) dX6_beside_89 (by decide) rfl rfl ?_
          refine aw_iinc (L2 := [_, _, _, _, _, _]) dX6_beside_90 rfl (by decide) rfl rfl ?_
          refine aw_goto (tg := 43) dX6_beside_93 (by decide) ?_
          rw [show oF y s q a b = 0 from if_neg (fun k => h80 k.2.2)] at hss
          exact ih (b + 1) _ (by omega) (by omega) (by omega)
        · refine aw_iconst dX6_beside_83 ?_
          refine aw_goto (tg := 88) dX6_beside_84 (by decide) ?_
          refine aw_iadd dX6_beside_88 ?_
          refine aw_istore_n (L2 := [_, _, _, _, _, _]) dX6_beside_89 (by decide) rfl rfl ?_
          refine aw_iinc (L2 := [_, _, _, _, _, _]) dX6_beside_90 rfl (by decide) rfl rfl ?_
          refine aw_goto (tg := 43) dX6_beside_93 (by decide) ?_
          rw [show oF y s q a b = 1 from if_pos ⟨h58, h69, h80⟩] at hss
          exact ih (b + 1) _ (by omega) (by omega) (by omega)
theorem lX6_be (d : Nat) {y : Int → Int} {s q : Int} {g : sp_G} {Q : sp_P} (hy : rH g 60 0 24 y) (hyb : ∀ a, 0 ≤ a → a < 24 → 0 ≤ y a ∧ y a < 24) (hs : 0 ≤ s ∧ s < 24) (hq : 0 ≤ q ∧ q < 24) (hQ : Q (some (v_i (sI (fun a => sI (oF y s q a) 24) 24))) g) :
    ∀ (n : Nat) (a m : Int) (bx : Option sp_V), 0 ≤ a → a + n = 24 → m = sI (fun a => sI (oF y s q a) 24) a → sp_AW mX6_beside (d + 1) 33 [some (v_r 52), some (v_i s), some (v_i q), some (v_i m), some (v_i a), bx] [] g Q := by
  intro n
  induction n with
  | zero =>
    intro a m bx h0 hn em
    have ea : a = 24 := by omega
    subst ea
    refine aw_iload dX6_beside_33 rfl ?_
    refine aw_bipush dX6_beside_35 (by decide) ?_
    refine aw_icmp_ge (tg := 102) dX6_beside_37 (by decide) (by omega) (fun h37 => ?_) (fun h37 => absurd h37 (by omega))
    refine aw_iload_n dX6_beside_102 rfl ?_
    refine aw_iret dX6_beside_103 rfl ?_
    rw [em]
    exact hQ
  | succ n ih =>
    intro a m bx h0 hn em
    refine aw_iload dX6_beside_33 rfl ?_
    refine aw_bipush dX6_beside_35 (by decide) ?_
    refine aw_icmp_ge (tg := 102) dX6_beside_37 (by decide) (by omega) (fun h37 => absurd h37 (by omega)) (fun h37 => ?_)
    refine aw_iconst dX6_beside_40 ?_
    refine aw_istore (L2 := [_, _, _, _, _, _]) dX6_beside_41 (by decide) rfl rfl ?_
    refine lX6_be_in d hy hyb hs hq (by omega) (m0 := m) (fun bx => ?_) 24 0 _ (by omega) (by omega) (by rw [sI_0]; omega)
    refine aw_iinc (L2 := [_, _, _, _, _, _]) dX6_beside_96 rfl (by decide) rfl rfl ?_
    refine aw_goto (tg := 33) dX6_beside_99 (by decide) ?_
    exact ih (a + 1) _ _ (by omega) (by omega) (by rw [sI_s _ h0, em])
theorem rX6_beside (d : Nat) {B : Int} {Z : zZ} {s q : Int} {g : sp_G} {Q : sp_P} (hR : mRep g Z) (hV : zV B Z) (hr : ((-2147483648 ≤ s ∧ s < 2147483648)) ∧ ((-2147483648 ≤ q ∧ q < 2147483648))) (h1 : ((0 ≤ s ∧ s ≤ (sc (ky (zo (zt Z)) (zd (zt Z))) 24) - 1) ∧ (0 ≤ q ∧ q ≤ (sc (ky (zo (zt Z)) (zd (zt Z))) 24) - 1) ∧ s ≠ q) → ∀ g2 : sp_G, mRep g2 Z → fCo g g2 → Q (some (v_i (sI (bs (sy (ky (zo (zt Z)) (zd (zt Z))) 24) s q) 24))) g2) (h2 : ¬ (((0 ≤ s ∧ s ≤ (sc (ky (zo (zt Z)) (zd (zt Z))) 24) - 1) ∧ (0 ≤ q ∧ q ≤ (sc (ky (zo (zt Z)) (zd (zt Z))) 24) - 1) ∧ s ≠ q)) → ∀ g2 : sp_G, mRep g2 (zr 3 Z) → fCo g g2 → Q (some (v_i (-2))) g2) : sp_Met (d + 8) mX6_beside [v_r 52, v_i s, v_i q] g Q := by
  refine sp_of (L := [_, _, _, _, _, _]) (by decide) (Nat.le_of_ble_eq_true rfl) rfl rfl ?_
  refine aw_aload_n dX6_beside_0 rfl ?_
  refine aw_iload_n dX6_beside_1 rfl ?_
  refine aw_V1 dX6_beside_2 okX6_isStyle lkX6_161 rfl rfl rfl ?_
  refine zX6_isStyle _ hR hV (by omega) (fun g1 f1 s1 => ?_)
  have r1 := hR.sc f1.sc
  have c1 := f1.sc.c
  have sb := st_b (ky (zo (zt Z)) (zd (zt Z)))
  refine aw_ifeq_b (tg := 21) dX6_beside_5 (by decide) (fun h5 => ?_) (fun h5 => ?_)
  · refine aw_aload_n dX6_beside_21 rfl ?_
    refine aw_bipush dX6_beside_22 (by decide) ?_
    refine aw_V1 dX6_beside_24 okX6_refuses lkX6_68 rfl rfl rfl ?_
    first | refine zX6_ref0 _ r3 hV (fun g2 r2 c2 => ?_) | refine zX6_ref0 _ r1 hV (fun g2 r2 c2 => ?_)
    refine aw_iret dX6_beside_27 rfl ?_
    exact h2 (by omega) g2 r2 (c1.tr c2)
  · refine aw_aload_n dX6_beside_8 rfl ?_
    refine aw_iload_n dX6_beside_9 rfl ?_
    refine aw_V1 dX6_beside_10 okX6_isStyle lkX6_161 rfl rfl rfl ?_
    refine zX6_isStyle _ r1 hV (by omega) (fun g3 f3 s3 => ?_)
    have r3 := r1.sc f3.sc
    have c3 := c1.tr f3.sc.c
    refine aw_ifeq_b (tg := 21) dX6_beside_13 (by decide) (fun h13 => ?_) (fun h13 => ?_)
    · refine aw_aload_n dX6_beside_21 rfl ?_
      refine aw_bipush dX6_beside_22 (by decide) ?_
      refine aw_V1 dX6_beside_24 okX6_refuses lkX6_68 rfl rfl rfl ?_
      first | refine zX6_ref0 _ r3 hV (fun g2 r2 c2 => ?_) | refine zX6_ref0 _ r1 hV (fun g2 r2 c2 => ?_)
      refine aw_iret dX6_beside_27 rfl ?_
      exact h2 (by omega) g2 r2 (c3.tr c2)
    · refine aw_iload_n dX6_beside_16 rfl ?_
      refine aw_iload_n dX6_beside_17 rfl ?_
      refine aw_icmp_ne (tg := 28) dX6_beside_18 (by decide) (by omega) (fun h18 => ?_) (fun h18 => ?_)
      · refine aw_iconst dX6_beside_28 ?_
        refine aw_istore_n (L2 := [_, _, _, _, _, _]) dX6_beside_29 (by decide) rfl rfl ?_
        refine aw_iconst dX6_beside_30 ?_
        refine aw_istore (L2 := [_, _, _, _, _, _]) dX6_beside_31 (by decide) rfl rfl ?_
        have e9 := h1 (by omega) g3 r3 c3
        rw [← oF_bs _ (by omega)] at e9
        exact lX6_be _ s3.2.1 sb.2.2 (by omega) (by omega) e9 24 0 0 _ (by omega) (by omega) rfl
      · refine aw_aload_n dX6_beside_21 rfl ?_
        refine aw_bipush dX6_beside_22 (by decide) ?_
        refine aw_V1 dX6_beside_24 okX6_refuses lkX6_68 rfl rfl rfl ?_
        first | refine zX6_ref0 _ r3 hV (fun g2 r2 c2 => ?_) | refine zX6_ref0 _ r1 hV (fun g2 r2 c2 => ?_)
        refine aw_iret dX6_beside_27 rfl ?_
        exact h2 (by omega) g2 r2 (c3.tr c2)
theorem lX6_unlike (d : Nat) {B : Int} {Z : zZ} {s q : Int} {g : sp_G} {Q : sp_P} (hR : mRep g Z) (hV : zV B Z) (hst : stM g (ky (zo (zt Z)) (zd (zt Z)))) (hs : 0 ≤ s ∧ s < (sc (ky (zo (zt Z)) (zd (zt Z))) 24)) (hq : 0 ≤ q ∧ q < (sc (ky (zo (zt Z)) (zd (zt Z))) 24)) (hQ : Q (some (v_i (sI (zul Z s q) 4))) g) :
    ∀ (n : Nat) (l many : Int), 0 ≤ l → l + n = 4 → many = sI (zul Z s q) l → sp_AW mX6_unlike (d + 1) 28 [some (v_r 52), some (v_i s), some (v_i q), some (v_i many), some (v_i l)] [] g Q := by
  have sb := st_b (ky (zo (zt Z)) (zd (zt Z)))
  have fa := sb.2.1 s hs.1 hs.2
  have fb := sb.2.1 q hq.1 hq.2
  have ea := hst.2.2 s s hs.1 hs.2 (by omega)
  have eb := hst.2.2 q q hq.1 hq.2 (by omega)
  intro n
  induction n with
  | zero =>
    intro l many h0 hn em
    have el : l = 4 := by omega
    subst el
    refine aw_iload dX6_unlike_28 rfl ?_
    refine aw_iconst dX6_unlike_30 ?_
    refine aw_icmp_ge (tg := 84) dX6_unlike_31 (by decide) (by omega) (fun h31 => ?_) (fun h31 => absurd h31 (by omega))
    refine aw_iload_n dX6_unlike_84 rfl ?_
    refine aw_iret dX6_unlike_85 rfl ?_
    rw [em]
    exact hQ
  | succ n ih =>
    intro l many h0 hn em
    have hbl := bt_01 (on := (zo (zt Z))) (l := l) hV.1.2.2.2 (by omega)
    have b1 := hV.1.2.1 (l * 24 + (sf (ky (zo (zt Z)) (zd (zt Z))) 24) s) (by omega) (by omega)
    have b2 := hV.1.2.1 (l * 24 + (sf (ky (zo (zt Z)) (zd (zt Z))) 24) q) (by omega) (by omega)
    have hss := sI_s (zul Z s q) h0
    rw [← em] at hss
    refine aw_iload dX6_unlike_28 rfl ?_
    refine aw_iconst dX6_unlike_30 ?_
    refine aw_icmp_ge (tg := 84) dX6_unlike_31 (by decide) (by omega) (fun h31 => absurd h31 (by omega)) (fun h31 => ?_)
    refine aw_iload_n dX6_unlike_34 rfl ?_
    refine aw_aload_n dX6_unlike_35 rfl ?_
    refine aw_iload dX6_unlike_36 rfl ?_
    refine aw_V1 dX6_unlike_38 okX6_isOn lkX6_61 rfl rfl rfl ?_
    refine tX6_isOn _ hR.on hbl ?_
    refine aw_ifeq_b (tg := 75) dX6_unlike_41 (by decide) (fun h41 => ?_) (fun h41 => ?_)
    · refine aw_iconst dX6_unlike_75 ?_
      refine aw_iadd dX6_unlike_76 ?_
      refine aw_istore_n (L2 := [_, _, _, _, _]) dX6_unlike_77 (by decide) rfl rfl ?_
      refine aw_iinc (L2 := [_, _, _, _, _]) dX6_unlike_78 rfl (by decide) rfl rfl ?_
      refine aw_goto (tg := 28) dX6_unlike_81 (by decide) ?_
      rw [show zul Z s q l = 0 from if_neg (fun k => h41 k.1)] at hss
      exact ih (l + 1) _ (by omega) (by omega) (by omega)
    · refine aw_aload_n dX6_unlike_44 rfl ?_
      refine aw_iload dX6_unlike_45 rfl ?_
      refine aw_aload_n dX6_unlike_47 rfl ?_
      refine aw_getR dX6_unlike_48 flX6_35 rfl rfl ?_
      refine aw_iload_n dX6_unlike_51 rfl ?_
      refine aw_iald dX6_unlike_52 rfl (by omega) ?_
      rw [ea]
      refine aw_V2 dX6_unlike_53 okX6_district lkX6_79 rfl rfl rfl ?_
      refine tX6_district _ hR.di (by omega) ?_
      refine aw_aload_n dX6_unlike_56 rfl ?_
      refine aw_iload dX6_unlike_57 rfl ?_
      refine aw_aload_n dX6_unlike_59 rfl ?_
      refine aw_getR dX6_unlike_60 flX6_35 rfl rfl ?_
      refine aw_iload_n dX6_unlike_63 rfl ?_
      refine aw_iald dX6_unlike_64 rfl (by omega) ?_
      rw [eb]
      refine aw_V2 dX6_unlike_65 okX6_district lkX6_79 rfl rfl rfl ?_
      refine tX6_district _ hR.di (by omega) ?_
      refine aw_icmp_eq (tg := 75) dX6_unlike_68 (by decide) (by omega) (fun h68 => ?_) (fun h68 => ?_)
      · refine aw_iconst dX6_unlike_75 ?_
        refine aw_iadd dX6_unlike_76 ?_
        refine aw_istore_n (L2 := [_, _, _, _, _]) dX6_unlike_77 (by decide) rfl rfl ?_
        refine aw_iinc (L2 := [_, _, _, _, _]) dX6_unlike_78 rfl (by decide) rfl rfl ?_
        refine aw_goto (tg := 28) dX6_unlike_81 (by decide) ?_
        rw [show zul Z s q l = 0 from if_neg (fun k => k.2 h68)] at hss
        exact ih (l + 1) _ (by omega) (by omega) (by omega)
      · refine aw_iconst dX6_unlike_71 ?_
        refine aw_goto (tg := 76) dX6_unlike_72 (by decide) ?_
        refine aw_iadd dX6_unlike_76 ?_
        refine aw_istore_n (L2 := [_, _, _, _, _]) dX6_unlike_77 (by decide) rfl rfl ?_
        refine aw_iinc (L2 := [_, _, _, _, _]) dX6_unlike_78 rfl (by decide) rfl rfl ?_
        refine aw_goto (tg := 28) dX6_unlike_81 (by decide) ?_
        rw [show zul Z s q l = 1 from if_pos ⟨h41, h68⟩] at hss
        exact ih (l + 1) _ (by omega) (by omega) (by omega)
theorem rX6_unlike (d : Nat) {B : Int} {Z : zZ} {s q : Int} {g : sp_G} {Q : sp_P} (hR : mRep g Z) (hV : zV B Z) (hr : ((-2147483648 ≤ s ∧ s < 2147483648)) ∧ ((-2147483648 ≤ q ∧ q < 2147483648))) (h1 : ((0 ≤ s ∧ s ≤ (sc (ky (zo (zt Z)) (zd (zt Z))) 24) - 1) ∧ (0 ≤ q ∧ q ≤ (sc (ky (zo (zt Z)) (zd (zt Z))) 24) - 1)) → ∀ g2 : sp_G, mRep g2 Z → fCo g g2 → Q (some (v_i (sI (zul Z s q) 4))) g2) (h2 : ¬ (((0 ≤ s ∧ s ≤ (sc (ky (zo (zt Z)) (zd (zt Z))) 24) - 1) ∧ (0 ≤ q ∧ q ≤ (sc (ky (zo (zt Z)) (zd (zt Z))) 24) - 1))) → ∀ g2 : sp_G, mRep g2 (zr 3 Z) → fCo g g2 → Q (some (v_i (-2))) g2) : sp_Met (d + 8) mX6_unlike [v_r 52, v_i s, v_i q] g Q := by
  refine sp_of (L := [_, _, _, _, _]) (by decide) (Nat.le_of_ble_eq_true rfl) rfl rfl ?_
  refine aw_aload_n dX6_unlike_0 rfl ?_
  refine aw_iload_n dX6_unlike_1 rfl ?_
  refine aw_V1 dX6_unlike_2 okX6_isStyle lkX6_161 rfl rfl rfl ?_
  refine zX6_isStyle _ hR hV (by omega) (fun g1 f1 s1 => ?_)
  have r1 := hR.sc f1.sc
  have c1 := f1.sc.c
  have sb := st_b (ky (zo (zt Z)) (zd (zt Z)))
  refine aw_ifeq_b (tg := 16) dX6_unlike_5 (by decide) (fun h5 => ?_) (fun h5 => ?_)
  · refine aw_aload_n dX6_unlike_16 rfl ?_
    refine aw_bipush dX6_unlike_17 (by decide) ?_
    refine aw_V1 dX6_unlike_19 okX6_refuses lkX6_68 rfl rfl rfl ?_
    first | refine zX6_ref0 _ r3 hV (fun g2 r2 c2 => ?_) | refine zX6_ref0 _ r1 hV (fun g2 r2 c2 => ?_)
    refine aw_iret dX6_unlike_22 rfl ?_
    exact h2 (by omega) g2 r2 (c1.tr c2)
  · refine aw_aload_n dX6_unlike_8 rfl ?_
    refine aw_iload_n dX6_unlike_9 rfl ?_
    refine aw_V1 dX6_unlike_10 okX6_isStyle lkX6_161 rfl rfl rfl ?_
    refine zX6_isStyle _ r1 hV (by omega) (fun g3 f3 s3 => ?_)
    have r3 := r1.sc f3.sc
    have c3 := c1.tr f3.sc.c
    refine aw_ifne_b (tg := 23) dX6_unlike_13 (by decide) (fun h13 => ?_) (fun h13 => ?_)
    · refine aw_iconst dX6_unlike_23 ?_
      refine aw_istore_n (L2 := [_, _, _, _, _]) dX6_unlike_24 (by decide) rfl rfl ?_
      refine aw_iconst dX6_unlike_25 ?_
      refine aw_istore (L2 := [_, _, _, _, _]) dX6_unlike_26 (by decide) rfl rfl ?_
      exact lX6_unlike _ r3 hV s3 (by omega) (by omega) (h1 (by omega) g3 r3 c3) 4 0 0 (by omega) (by omega) rfl
    · refine aw_aload_n dX6_unlike_16 rfl ?_
      refine aw_bipush dX6_unlike_17 (by decide) ?_
      refine aw_V1 dX6_unlike_19 okX6_refuses lkX6_68 rfl rfl rfl ?_
      first | refine zX6_ref0 _ r3 hV (fun g2 r2 c2 => ?_) | refine zX6_ref0 _ r1 hV (fun g2 r2 c2 => ?_)
      refine aw_iret dX6_unlike_22 rfl ?_
      exact h2 (by omega) g2 r2 (c3.tr c2)
theorem lX6_odd (d : Nat) {B : Int} {Z : zZ} {what : Int} {g0 : sp_G} {Q : sp_P} (hR : mRep g0 Z) (hV : zV B Z) (hst : stM g0 (ky (zo (zt Z)) (zd (zt Z)))) (hw : 0 ≤ what ∧ what ≤ 1) (hQ : ∀ g2 : sp_G, sp_fr [62] g0 g2 → Q (some (v_i (zodd Z what))) g2) :
    ∀ (n : Nat) (k best : Int) (x : Option sp_V) (g : sp_G), 1 ≤ k → k + n = (sc (ky (zo (zt Z)) (zd (zt Z))) 24) → best = (if what = 0 then am (vo (sy (ky (zo (zt Z)) (zd (zt Z))) 24) (zp (zt Z))) k else am (fun s => - pt (sy (ky (zo (zt Z)) (zd (zt Z))) 24) s) k) → sp_fr [62] g0 g → sp_AW mX6_odd (d + 2) 24 [some (v_r 52), some (v_i what), some (v_i best), some (v_i k), x] [] g Q := by
  have sb := st_b (ky (zo (zt Z)) (zd (zt Z)))
  intro n
  induction n with
  | zero =>
    intro k best x g h0 hn eb hf
    have ek : k = (sc (ky (zo (zt Z)) (zd (zt Z))) 24) := by omega
    have f12 : g 52 12 = (sc (ky (zo (zt Z)) (zd (zt Z))) 24) := by rw [hf 52 (by decide)]; exact hst.1
    refine aw_iload_n dX6_odd_24 rfl ?_
    refine aw_aload_n dX6_odd_25 rfl ?_
    refine aw_getI (kz := 12) dX6_odd_26 flX6_152 rfl rfl rfl ?_
    rw [f12]
    refine aw_icmp_ge (tg := 94) dX6_odd_29 (by decide) (by omega) (fun h29 => ?_) (fun h29 => absurd h29 (by omega))
    refine aw_iload_n dX6_odd_94 rfl ?_
    refine aw_iret dX6_odd_95 rfl ?_
    have e9 := hQ g hf
    unfold zodd at e9
    rw [eb, ek]
    exact e9
  | succ n ih =>
    intro k best x g h0 hn eb hf
    have f12 : g 52 12 = (sc (ky (zo (zt Z)) (zd (zt Z))) 24) := by rw [hf 52 (by decide)]; exact hst.1
    have hy := hst.2.1.fr hf (by decide)
    have hpe := hR.pe.fr hf (by decide)
    have ab : 0 ≤ best ∧ best < k := by
      rw [eb]
      split
      · exact am_b (by omega)
      · exact am_b (by omega)
    have v1 := vo_b (y := (sy (ky (zo (zt Z)) (zd (zt Z))) 24)) k hV.1.1
    have v2 := vo_b (y := (sy (ky (zo (zt Z)) (zd (zt Z))) 24)) best hV.1.1
    have u1 := pt_b (sy (ky (zo (zt Z)) (zd (zt Z))) 24) k
    have u2 := pt_b (sy (ky (zo (zt Z)) (zd (zt Z))) 24) best
    have s1 := am_s (f := vo (sy (ky (zo (zt Z)) (zd (zt Z))) 24) (zp (zt Z))) (c := k) (by omega)
    have s2 := am_s (f := fun s => - pt (sy (ky (zo (zt Z)) (zd (zt Z))) 24) s) (c := k) (by omega)
    refine aw_iload_n dX6_odd_24 rfl ?_
    refine aw_aload_n dX6_odd_25 rfl ?_
    refine aw_getI (kz := 12) dX6_odd_26 flX6_152 rfl rfl rfl ?_
    rw [f12]
    refine aw_icmp_ge (tg := 94) dX6_odd_29 (by decide) (by omega) (fun h29 => absurd h29 (by omega)) (fun h29 => ?_)
    refine aw_iload_n dX6_odd_32 rfl ?_
    refine aw_if_ne (tg := 57) dX6_odd_33 (by decide) (by omega) (fun h33 => ?_) (fun h33 => ?_)
    · refine aw_aload_n dX6_odd_57 rfl ?_
      refine aw_iload_n dX6_odd_58 rfl ?_
      refine aw_V1 dX6_odd_59 okX6_partsOf lkX6_170 rfl rfl rfl ?_
      refine tX6_partsOf _ sb.2.2 (by omega) hy (fun g2 f2 => ?_)
      refine aw_aload_n dX6_odd_62 rfl ?_
      refine aw_iload_n dX6_odd_63 rfl ?_
      refine aw_V1 dX6_odd_64 okX6_partsOf lkX6_170 rfl rfl rfl ?_
      refine tX6_partsOf _ sb.2.2 (by omega) (hy.fr f2 (by decide)) (fun g3 f3 => ?_)
      refine aw_icmp_le (tg := 74) dX6_odd_67 (by decide) (by omega) (fun h67 => ?_) (fun h67 => ?_)
      · refine aw_iconst dX6_odd_74 ?_
        rw [if_neg (show ¬ what = 0 by omega)] at eb
        rw [← eb, if_neg (by omega)] at s2
        refine aw_istore (L2 := [_, _, _, _, _]) dX6_odd_75 (by decide) rfl rfl ?_
        refine aw_iload dX6_odd_77 rfl ?_
        refine aw_if_eq (tg := 86) dX6_odd_79 (by decide) (by omega) (fun j79 => ?_) (fun j79 => absurd j79 (by omega))
        refine aw_iload_n dX6_odd_86 rfl ?_
        refine aw_istore_n (L2 := [_, _, _, _, _]) dX6_odd_87 (by decide) rfl rfl ?_
        refine aw_iinc (L2 := [_, _, _, _, _]) dX6_odd_88 rfl (by decide) rfl rfl ?_
        refine aw_goto (tg := 24) dX6_odd_91 (by decide) ?_
        exact ih (k + 1) _ _ g3 (by omega) (by omega) (by rw [if_neg (by omega)]; exact s2.symm) ((hf.tr f2 (by decide)).tr f3 (by decide))
      · refine aw_iconst dX6_odd_70 ?_
        refine aw_goto (tg := 75) dX6_odd_71 (by decide) ?_
        rw [if_neg (show ¬ what = 0 by omega)] at eb
        rw [← eb, if_pos (by omega)] at s2
        refine aw_istore (L2 := [_, _, _, _, _]) dX6_odd_75 (by decide) rfl rfl ?_
        refine aw_iload dX6_odd_77 rfl ?_
        refine aw_if_eq (tg := 86) dX6_odd_79 (by decide) (by omega) (fun j79 => absurd j79 (by omega)) (fun j79 => ?_)
        refine aw_iload_n dX6_odd_82 rfl ?_
        refine aw_goto (tg := 87) dX6_odd_83 (by decide) ?_
        refine aw_istore_n (L2 := [_, _, _, _, _]) dX6_odd_87 (by decide) rfl rfl ?_
        refine aw_iinc (L2 := [_, _, _, _, _]) dX6_odd_88 rfl (by decide) rfl rfl ?_
        refine aw_goto (tg := 24) dX6_odd_91 (by decide) ?_
        exact ih (k + 1) _ _ g3 (by omega) (by omega) (by rw [if_neg (by omega)]; exact s2.symm) ((hf.tr f2 (by decide)).tr f3 (by decide))
    · refine aw_aload_n dX6_odd_36 rfl ?_
      refine aw_iload_n dX6_odd_37 rfl ?_
      refine aw_V1 dX6_odd_38 okX6_votersOf lkX6_167 rfl rfl rfl ?_
      refine tX6_votersOf _ hy sb.2.2 (by omega) hpe ?_
      refine aw_aload_n dX6_odd_41 rfl ?_
      refine aw_iload_n dX6_odd_42 rfl ?_
      refine aw_V1 dX6_odd_43 okX6_votersOf lkX6_167 rfl rfl rfl ?_
      refine tX6_votersOf _ hy sb.2.2 (by omega) hpe ?_
      refine aw_icmp_ge (tg := 53) dX6_odd_46 (by decide) (by omega) (fun h46 => ?_) (fun h46 => ?_)
      · refine aw_iconst dX6_odd_53 ?_
        refine aw_goto (tg := 75) dX6_odd_54 (by decide) ?_
        rw [if_pos (show what = 0 by omega)] at eb
        rw [← eb, if_neg (by omega)] at s1
        refine aw_istore (L2 := [_, _, _, _, _]) dX6_odd_75 (by decide) rfl rfl ?_
        refine aw_iload dX6_odd_77 rfl ?_
        refine aw_if_eq (tg := 86) dX6_odd_79 (by decide) (by omega) (fun j79 => ?_) (fun j79 => absurd j79 (by omega))
        refine aw_iload_n dX6_odd_86 rfl ?_
        refine aw_istore_n (L2 := [_, _, _, _, _]) dX6_odd_87 (by decide) rfl rfl ?_
        refine aw_iinc (L2 := [_, _, _, _, _]) dX6_odd_88 rfl (by decide) rfl rfl ?_
        refine aw_goto (tg := 24) dX6_odd_91 (by decide) ?_
        exact ih (k + 1) _ _ g (by omega) (by omega) (by rw [if_pos (by omega)]; exact s1.symm) hf
      · refine aw_iconst dX6_odd_49 ?_
        refine aw_goto (tg := 75) dX6_odd_50 (by decide) ?_
        rw [if_pos (show what = 0 by omega)] at eb
        rw [← eb, if_pos (by omega)] at s1
        refine aw_istore (L2 := [_, _, _, _, _]) dX6_odd_75 (by decide) rfl rfl ?_
        refine aw_iload dX6_odd_77 rfl ?_
        refine aw_if_eq (tg := 86) dX6_odd_79 (by decide) (by omega) (fun j79 => absurd j79 (by omega)) (fun j79 => ?_)
        refine aw_iload_n dX6_odd_82 rfl ?_
        refine aw_goto (tg := 87) dX6_odd_83 (by decide) ?_
        refine aw_istore_n (L2 := [_, _, _, _, _]) dX6_odd_87 (by decide) rfl rfl ?_
        refine aw_iinc (L2 := [_, _, _, _, _]) dX6_odd_88 rfl (by decide) rfl rfl ?_
        refine aw_goto (tg := 24) dX6_odd_91 (by decide) ?_
        exact ih (k + 1) _ _ g (by omega) (by omega) (by rw [if_pos (by omega)]; exact s1.symm) hf
theorem rX6_odd (d : Nat) {B : Int} {Z : zZ} {what : Int} {g : sp_G} {Q : sp_P} (hR : mRep g Z) (hV : zV B Z) (hr : (-2147483648 ≤ what ∧ what < 2147483648)) (h1 : (0 ≤ what ∧ what ≤ 1) → ∀ g2 : sp_G, mRep g2 Z → fCo g g2 → Q (some (v_i (zodd Z what))) g2) (h2 : ¬ ((0 ≤ what ∧ what ≤ 1)) → ∀ g2 : sp_G, mRep g2 (zr 3 Z) → fCo g g2 → Q (some (v_i (-2))) g2) : sp_Met (d + 8) mX6_odd [v_r 52, v_i what] g Q := by
  refine sp_of (L := [_, _, _, _, _]) (by decide) (Nat.le_of_ble_eq_true rfl) rfl rfl ?_
  refine aw_iload_n dX6_odd_0 rfl ?_
  refine aw_iconst dX6_odd_1 ?_
  refine aw_iconst dX6_odd_2 ?_
  refine aw_S3 dX6_odd_3 okX6_in lkX6_53 rfl ?_
  refine tX6_in _ (by omega) ?_
  refine aw_ifne_b (tg := 16) dX6_odd_6 (by decide) (fun h6 => ?_) (fun h6 => ?_)
  · refine aw_aload_n dX6_odd_16 rfl ?_
    refine aw_V0 dX6_odd_17 okX6_finds lkX6_112 rfl rfl rfl ?_
    refine zX6_finds _ hR hV (fun g1 f1 s1 => ?_)
    have r1 := hR.sc f1.sc
    have c1 := f1.sc.c
    have sb := st_b (ky (zo (zt Z)) (zd (zt Z)))
    refine aw_iconst dX6_odd_20 ?_
    refine aw_istore_n (L2 := [_, _, _, _, _]) dX6_odd_21 (by decide) rfl rfl ?_
    refine aw_iconst dX6_odd_22 ?_
    refine aw_istore_n (L2 := [_, _, _, _, _]) dX6_odd_23 (by decide) rfl rfl ?_
    refine lX6_odd _ r1 hV s1 (by omega) (fun g2 f2 => h1 (by omega) g2 (r1.sc ⟨f2.wk (by decide), f2 52 (by decide) 2, f2 52 (by decide) 6⟩) (c1.tr (fCo.fr f2 (by decide)))) ((sc (ky (zo (zt Z)) (zd (zt Z))) 24) - 1).toNat 1 0 _ g1 (by omega) (by omega) ?_ sp_fr.rf
    split
    · exact (am_1 _).symm
    · exact (am_1 _).symm
  · refine aw_aload_n dX6_odd_9 rfl ?_
    refine aw_bipush dX6_odd_10 (by decide) ?_
    refine aw_V1 dX6_odd_12 okX6_refuses lkX6_68 rfl rfl rfl ?_
    refine zX6_ref0 _ hR hV (fun g2 r2 c2 => ?_)
    refine aw_iret dX6_odd_15 rfl ?_
    exact h2 (by omega) g2 r2 c2
