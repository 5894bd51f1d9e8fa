theorem lX6_room (d : Nat) {C sh : Int} {rm : Int → Int} {s what : Int} {g : sp_G} {Q : sp_P} (hC : 1 ≤ C ∧ C ≤ 3) (hb : 0 ≤ sh * C ∧ sh * C ≤ 12) (hs : 0 ≤ sh ∧ sh ≤ 4) (e0 : g 55 0 = C) (e7 : g 52 19 = sh) (hr : rH g 66 0 (sh * C) rm) (hrb : ∀ c, 0 ≤ c → c < sh * C → 0 ≤ rm c ∧ rm c ≤ 30) (hQ : Q (some (v_i (sI rm (sh * C)))) g) :
    ∀ (n : Nat) (k t : Int), 0 ≤ k → k + n = sh * C → t = sI rm k → sp_AW mX6_room d 62 [some (v_r 52), some (v_i s), some (v_i what), some (v_i t), some (v_i k)] [] g Q := by
  have hm : C * sh = sh * C := Int.mul_comm _ _
  intro n
  induction n with
  | zero =>
    intro k t h0 hn et
    have ek : k = sh * C := by omega
    refine aw_iload dX6_room_62 rfl ?_
    refine aw_aload_n dX6_room_64 rfl ?_
    refine aw_getR dX6_room_65 flX6_16 rfl rfl ?_
    refine aw_iconst dX6_room_68 ?_
    refine aw_iald dX6_room_69 rfl (by omega) ?_
    refine aw_aload_n dX6_room_70 rfl ?_
    refine aw_getI (kz := 19) dX6_room_71 flX6_182 rfl rfl rfl ?_
    rw [e0, e7]
    refine aw_imul dX6_room_74 ?_
    rw [hm]
    refine aw_icmp_ge (tg := 94) dX6_room_75 (by decide) (by omega) (fun h75 => ?_) (fun h75 => absurd h75 (by omega))
    refine aw_iload_n dX6_room_94 rfl ?_
    refine aw_iret dX6_room_95 rfl ?_
    rw [et, ek]
    exact hQ
  | succ n ih =>
    intro k t h0 hn et
    have tb := sI_b (f := rm) (lo := 0) (hi := 30) h0 (fun i i0 i1 => hrb i i0 (by omega))
    have hkb := hrb k h0 (by omega)
    refine aw_iload dX6_room_62 rfl ?_
    refine aw_aload_n dX6_room_64 rfl ?_
    refine aw_getR dX6_room_65 flX6_16 rfl rfl ?_
    refine aw_iconst dX6_room_68 ?_
    refine aw_iald dX6_room_69 rfl (by omega) ?_
    refine aw_aload_n dX6_room_70 rfl ?_
    refine aw_getI (kz := 19) dX6_room_71 flX6_182 rfl rfl rfl ?_
    rw [e0, e7]
    refine aw_imul dX6_room_74 ?_
    rw [hm]
    refine aw_icmp_ge (tg := 94) dX6_room_75 (by decide) (by omega) (fun h75 => absurd h75 (by omega)) (fun h75 => ?_)
    refine aw_iload_n dX6_room_78 rfl ?_
    refine aw_aload_n dX6_room_79 rfl ?_
    refine aw_getR dX6_room_80 flX6_50 rfl rfl ?_
    refine aw_iload dX6_room_83 rfl ?_
    refine aw_iald dX6_room_85 rfl (by omega) ?_
    rw [hr k k h0 (by omega) (by omega)]
    refine aw_iadd dX6_room_86 ?_
    refine aw_istore_n (L2 := [_, _, _, _, _]) dX6_room_87 (by decide) rfl rfl ?_
    refine aw_iinc (L2 := [_, _, _, _, _]) dX6_room_88 rfl (by decide) rfl rfl ?_
    refine aw_goto (tg := 62) dX6_room_91 (by decide) ?_
    exact ih (k + 1) _ (by omega) (by omega) (by rw [sI_s _ h0, et])
theorem rX6_room (d : Nat) {B : Int} {Z : zZ} {s what : Int} {g : sp_G} {Q : sp_P} (hR : mRep g Z) (hV : zV B Z) (hr : ((-2147483648 ≤ s ∧ s < 2147483648)) ∧ ((-2147483648 ≤ what ∧ what < 2147483648))) (h1 : ((0 ≤ s ∧ s ≤ (sc (ky (zo (zt Z)) (zd (zt Z))) 24) - 1) ∧ (0 ≤ what ∧ what ≤ 1)) → ∀ g2 : sp_G, mRep g2 Z → fCo g g2 → Q (some (v_i (zrm Z s what))) g2) (h2 : ¬ (((0 ≤ s ∧ s ≤ (sc (ky (zo (zt Z)) (zd (zt Z))) 24) - 1) ∧ (0 ≤ what ∧ what ≤ 1))) → ∀ g2 : sp_G, mRep g2 (zr 3 Z) → fCo g g2 → Q (some (v_i (-2))) g2) : sp_Met (d + 8) mX6_room [v_r 52, v_i s, v_i what] g Q := by
  refine sp_of (L := [_, _, _, _, _]) (by decide) (Nat.le_of_ble_eq_true rfl) rfl rfl ?_
  refine aw_aload_n dX6_room_0 rfl ?_
  refine aw_iload_n dX6_room_1 rfl ?_
  refine aw_V1 dX6_room_2 okX6_isStyle lkX6_161 rfl rfl rfl ?_
  refine zX6_isStyle _ hR hV (by omega) (fun g1 f1 s1 => ?_)
  have r1 := hR.sc f1.sc
  have c1 := f1.sc.c
  have sb := st_b (ky (zo (zt Z)) (zd (zt Z)))
  refine aw_ifeq_b (tg := 17) dX6_room_5 (by decide) (fun h5 => ?_) (fun h5 => ?_)
  · refine aw_aload_n dX6_room_17 rfl ?_
    refine aw_bipush dX6_room_18 (by decide) ?_
    refine aw_V1 dX6_room_20 okX6_refuses lkX6_68 rfl rfl rfl ?_
    refine zX6_ref0 _ r1 hV (fun g2 r2 c2 => ?_)
    refine aw_iret dX6_room_23 rfl ?_
    exact h2 (by omega) g2 r2 (c1.tr c2)
  · refine aw_iload_n dX6_room_8 rfl ?_
    refine aw_iconst dX6_room_9 ?_
    refine aw_iconst dX6_room_10 ?_
    refine aw_S3 dX6_room_11 okX6_in lkX6_53 rfl ?_
    refine tX6_in _ (by omega) ?_
    refine aw_ifne_b (tg := 24) dX6_room_14 (by decide) (fun h14 => ?_) (fun h14 => ?_)
    · refine aw_iload_n dX6_room_24 rfl ?_
      refine aw_iconst dX6_room_25 ?_
      refine aw_icmp_ne (tg := 41) dX6_room_26 (by decide) (by omega) (fun h26 => ?_) (fun h26 => ?_)
      · refine aw_aload_n dX6_room_41 rfl ?_
        refine aw_iload_n dX6_room_42 rfl ?_
        refine aw_aload_n dX6_room_43 rfl ?_
        refine aw_getR dX6_room_44 flX6_16 rfl rfl ?_
        refine aw_iconst dX6_room_47 ?_
        refine aw_iald dX6_room_48 rfl (by omega) ?_
        rw [r1.2.2.2.1.2.2]
        refine aw_V2 dX6_room_49 okX6_prints lkX6_198 rfl rfl rfl ?_
        refine zX6_prints _ r1 hV s1 (by omega) hV.2.2.2.1.2.2 (fun g3 p3 m3 n3 => ?_)
        have hl := zL_V hV hV.2.2.2.1.2.2 (s := s) (by omega)
        refine aw_if_ne (tg := 57) dX6_room_52 (by decide) (by omega) (fun h52 => ?_) (fun h52 => ?_)
        · refine aw_iconst dX6_room_57 ?_
          refine aw_istore_n (L2 := [_, _, _, _, _]) dX6_room_58 (by decide) rfl rfl ?_
          refine aw_iconst dX6_room_59 ?_
          refine aw_istore (L2 := [_, _, _, _, _]) dX6_room_60 (by decide) rfl rfl ?_
          have e9 := h1 (by omega) g3 (r1.sc p3.sc) (c1.tr p3.sc.c)
          unfold zrm at e9
          have q9 : ¬ l_br (zL Z (zn Z 2) s) = 1 := fun q => h52 ((shs_0 hV hV.2.2.2.1.2.2 (s := s) (by omega)).2 q)
          rw [if_neg (by omega), if_neg q9] at e9
          have hmul := l_mul (sh := l_sh (zL Z (zn Z 2) s)) hV.2.2.2.1.1 hl.1.2.2.2.1
          have m12 := hmul.2.1 hl.2.2.1
          have m0 := hmul.2.2.1
          have hsh := hl.1.2.2.2.1
          exact lX6_room _ hV.2.2.2.1.1 ⟨by omega, m12⟩ ⟨by omega, hl.2.2.1⟩ (r1.sc p3.sc).2.2.2.1.1 m3.1 m3.2.2.1 hl.1.2.2.2.2.2.2.1 e9 (l_sh (zL Z (zn Z 2) s) * (zn Z 0)).toNat 0 0 (by omega) (by omega) rfl
        · refine aw_iconst dX6_room_55 ?_
          refine aw_iret dX6_room_56 rfl ?_
          have e9 := h1 (by omega) g3 (r1.sc p3.sc) (c1.tr p3.sc.c)
          unfold zrm at e9
          have q9 := (shs_0 hV hV.2.2.2.1.2.2 (s := s) (by omega)).1 h52
          rwa [if_neg (by omega), if_pos q9] at e9
      · refine aw_aload_n dX6_room_29 rfl ?_
        refine aw_aload_n dX6_room_30 rfl ?_
        refine aw_getR dX6_room_31 flX6_16 rfl rfl ?_
        refine aw_iconst dX6_room_34 ?_
        refine aw_iald dX6_room_35 rfl (by omega) ?_
        rw [r1.2.2.2.1.2.2]
        refine aw_iconst dX6_room_36 ?_
        refine aw_V2 dX6_room_37 okX6_facesBy lkX6_201 rfl rfl rfl ?_
        refine zX6_facesBy _ r1 hV s1 hV.2.2.2.1.2.2 (by omega) (fun q => absurd q.2 (by omega)) (fun _ g3 p3 => ?_)
        refine aw_iret dX6_room_40 rfl ?_
        have e9 := h1 (by omega) g3 (r1.sc p3.sc) (c1.tr p3.sc.c)
        unfold zrm at e9
        rwa [if_pos (by omega)] at e9
    · refine aw_aload_n dX6_room_17 rfl ?_
      refine aw_bipush dX6_room_18 (by decide) ?_
      refine aw_V1 dX6_room_20 okX6_refuses lkX6_68 rfl rfl rfl ?_
      refine zX6_ref0 _ r1 hV (fun g2 r2 c2 => ?_)
      refine aw_iret dX6_room_23 rfl ?_
      exact h2 (by omega) g2 r2 (c1.tr c2)
theorem lX6_rule (d : Nat) {B : Int} {Z : zZ} {what : Int} {g0 : sp_G} {Q : sp_P} (hR : mRep g0 Z) (hV : zV B Z) (hst : stM g0 (ky (zo (zt Z)) (zd (zt Z)))) (hnb : ¬ zBr Z) (hw : 0 ≤ what ∧ what ≤ 1) (hQ : ∀ g2 : sp_G, prM g0 g2 → Q (some (v_i (if what = 0 then am (zAll Z) 4 else zAll Z (am (zAll Z) 4)))) g2) :
    ∀ (n : Nat) (r best few : Int) (x : Option sp_V) (g : sp_G), 1 ≤ r → r + n = 4 → best = am (zAll Z) r → few = zAll Z best → prM g0 g → sp_AW mX6_rule (d + 4) 43 [some (v_r 52), some (v_i what), some (v_i best), some (v_i few), some (v_i r), x] [] g Q := by
  intro n
  induction n with
  | zero =>
    intro r best few mm g h0 hn eb ef hp
    have er : r = 4 := by omega
    subst er
    refine aw_iload dX6_rule_43 rfl ?_
    refine aw_iconst dX6_rule_45 ?_
    refine aw_icmp_ge (tg := 90) dX6_rule_46 (by decide) (by omega) (fun h46 => ?_) (fun h46 => absurd h46 (by omega))
    refine aw_iload_n dX6_rule_90 rfl ?_
    refine aw_if_ne (tg := 98) dX6_rule_91 (by decide) (by omega) (fun h91 => ?_) (fun h91 => ?_)
    · refine aw_iload_n dX6_rule_98 rfl ?_
      refine aw_iret dX6_rule_99 rfl ?_
      have e9 := hQ g hp
      rw [if_neg (by omega)] at e9
      rw [ef, eb]
      exact e9
    · refine aw_iload_n dX6_rule_94 rfl ?_
      refine aw_goto (tg := 99) dX6_rule_95 (by decide) ?_
      refine aw_iret dX6_rule_99 rfl ?_
      have e9 := hQ g hp
      rw [if_pos (by omega)] at e9
      rw [eb]
      exact e9
  | succ n ih =>
    intro r best few mm g h0 hn eb ef hp
    have ab := am_b (f := zAll Z) (c := r) (by omega)
    rw [← eb] at ab
    have v1 := zAll_b hV (R := r) (by omega)
    have v2 := zAll_b hV (R := best) (by omega)
    have hs := am_s (f := zAll Z) (c := r) (by omega)
    rw [← eb] at hs
    have s1 := hst.pr hp
    have r1 := hR.sc hp.sc
    refine aw_iload dX6_rule_43 rfl ?_
    refine aw_iconst dX6_rule_45 ?_
    refine aw_icmp_ge (tg := 90) dX6_rule_46 (by decide) (by omega) (fun h46 => absurd h46 (by omega)) (fun h46 => ?_)
    refine aw_aload_n dX6_rule_49 rfl ?_
    refine aw_iload dX6_rule_50 rfl ?_
    refine aw_iconst dX6_rule_52 ?_
    refine aw_V2 dX6_rule_53 okX6_facesBy lkX6_201 rfl rfl rfl ?_
    refine zX6_facesBy _ r1 hV s1 (by omega) (by omega) (fun q => absurd q.1 hnb) (fun _ g2 hp2 => ?_)
    refine aw_istore (L2 := [_, _, _, _, _, _]) dX6_rule_56 (by decide) rfl rfl ?_
    refine aw_iload dX6_rule_58 rfl ?_
    refine aw_iload_n dX6_rule_60 rfl ?_
    refine aw_icmp_ge (tg := 69) dX6_rule_61 (by decide) (by omega) (fun h61 => ?_) (fun h61 => ?_)
    · refine aw_iload_n dX6_rule_69 rfl ?_
      refine aw_istore_n (L2 := [_, _, _, _, _, _]) dX6_rule_70 (by decide) rfl rfl ?_
      rw [if_neg (by omega)] at hs
      refine aw_iload dX6_rule_71 rfl ?_
      refine aw_iload_n dX6_rule_73 rfl ?_
      refine aw_icmp_ge (tg := 82) dX6_rule_74 (by decide) (by omega) (fun j74 => ?_) (fun j74 => absurd j74 (by omega))
      refine aw_iload_n dX6_rule_82 rfl ?_
      refine aw_istore_n (L2 := [_, _, _, _, _, _]) dX6_rule_83 (by decide) rfl rfl ?_
      refine aw_iinc (L2 := [_, _, _, _, _, _]) dX6_rule_84 rfl (by decide) rfl rfl ?_
      refine aw_goto (tg := 43) dX6_rule_87 (by decide) ?_
      exact ih (r + 1) _ _ _ g2 (by omega) (by omega) hs.symm ef (hp.tr hp2)
    · refine aw_iload dX6_rule_64 rfl ?_
      refine aw_goto (tg := 70) dX6_rule_66 (by decide) ?_
      refine aw_istore_n (L2 := [_, _, _, _, _, _]) dX6_rule_70 (by decide) rfl rfl ?_
      rw [if_pos (by omega)] at hs
      refine aw_iload dX6_rule_71 rfl ?_
      refine aw_iload_n dX6_rule_73 rfl ?_
      refine aw_icmp_ge (tg := 82) dX6_rule_74 (by decide) (by omega) (fun j74 => absurd j74 (by omega)) (fun j74 => ?_)
      refine aw_iload dX6_rule_77 rfl ?_
      refine aw_goto (tg := 83) dX6_rule_79 (by decide) ?_
      refine aw_istore_n (L2 := [_, _, _, _, _, _]) dX6_rule_83 (by decide) rfl rfl ?_
      refine aw_iinc (L2 := [_, _, _, _, _, _]) dX6_rule_84 rfl (by decide) rfl rfl ?_
      refine aw_goto (tg := 43) dX6_rule_87 (by decide) ?_
      exact ih (r + 1) _ _ _ g2 (by omega) (by omega) hs.symm rfl (hp.tr hp2)
theorem rX6_rule (d : Nat) {B : Int} {Z : zZ} {what : Int} {g : sp_G} {Q : sp_P} (hR : mRep g Z) (hV : zV B Z) (hr : (-2147483648 ≤ what ∧ what < 2147483648)) (h1 : (0 ≤ what ∧ what ≤ 1) → ¬ zBr Z → ∀ g2 : sp_G, mRep g2 Z → fCo g g2 → Q (some (v_i (if what = 0 then am (zAll Z) 4 else zAll Z (am (zAll Z) 4)))) g2) (h3 : (0 ≤ what ∧ what ≤ 1) → zBr Z → ∀ g2 : sp_G, mRep g2 (zr 4 Z) → fCo g g2 → Q (some (v_i (-3))) g2) (h2 : ¬ (0 ≤ what ∧ what ≤ 1) → ∀ g2 : sp_G, mRep g2 (zr 3 Z) → fCo g g2 → Q (some (v_i (-2))) g2) : sp_Met (d + 8) mX6_rule [v_r 52, v_i what] g Q := by
  refine sp_of (L := [_, _, _, _, _, _]) (by decide) (Nat.le_of_ble_eq_true rfl) rfl rfl ?_
  refine aw_iload_n dX6_rule_0 rfl ?_
  refine aw_iconst dX6_rule_1 ?_
  refine aw_iconst dX6_rule_2 ?_
  refine aw_S3 dX6_rule_3 okX6_in lkX6_53 rfl ?_
  refine tX6_in _ (by omega) ?_
  refine aw_ifne_b (tg := 16) dX6_rule_6 (by decide) (fun h6 => ?_) (fun h6 => ?_)
  · refine aw_aload_n dX6_rule_16 rfl ?_
    refine aw_V0 dX6_rule_17 okX6_finds lkX6_112 rfl rfl rfl ?_
    refine zX6_finds _ hR hV (fun g1 f1 s1 => ?_)
    have r1 := hR.sc f1.sc
    have c1 := f1.sc.c
    have sb := st_b (ky (zo (zt Z)) (zd (zt Z)))
    refine aw_iconst dX6_rule_20 ?_
    refine aw_istore_n (L2 := [_, _, _, _, _, _]) dX6_rule_21 (by decide) rfl rfl ?_
    by_cases hbr : zBr Z
    · refine aw_aload_n dX6_rule_22 rfl ?_
      refine aw_iconst dX6_rule_23 ?_
      refine aw_iconst dX6_rule_24 ?_
      refine aw_V2 dX6_rule_25 okX6_facesBy lkX6_201 rfl rfl rfl ?_
      refine zX6_facesBy _ r1 hV s1 (by omega) (by omega) (fun _ g3 p3 => ?_) (fun q => absurd ⟨hbr, rfl⟩ q)
      refine aw_istore_n (L2 := [_, _, _, _, _, _]) dX6_rule_28 (by decide) rfl rfl ?_
      refine aw_iload_n dX6_rule_29 rfl ?_
      refine aw_if_ge (tg := 40) dX6_rule_30 (by decide) (by omega) (fun h30 => absurd h30 (by omega)) (fun h30 => ?_)
      refine aw_aload_n dX6_rule_33 rfl ?_
      refine aw_bipush dX6_rule_34 (by decide) ?_
      refine aw_V1 dX6_rule_36 okX6_refuses lkX6_68 rfl rfl rfl ?_
      refine zX6_ref1 _ (r1.sc p3.sc) hV (fun g4 r4 c4 => ?_)
      refine aw_iret dX6_rule_39 rfl ?_
      exact h3 (by omega) hbr g4 r4 ((c1.tr p3.sc.c).tr c4)
    · have v0 := zAll_b hV (R := 0) (by omega)
      refine aw_aload_n dX6_rule_22 rfl ?_
      refine aw_iconst dX6_rule_23 ?_
      refine aw_iconst dX6_rule_24 ?_
      refine aw_V2 dX6_rule_25 okX6_facesBy lkX6_201 rfl rfl rfl ?_
      refine zX6_facesBy _ r1 hV s1 (by omega) (by omega) (fun q => absurd q.1 hbr) (fun _ g3 p3 => ?_)
      refine aw_istore_n (L2 := [_, _, _, _, _, _]) dX6_rule_28 (by decide) rfl rfl ?_
      refine aw_iload_n dX6_rule_29 rfl ?_
      refine aw_if_ge (tg := 40) dX6_rule_30 (by decide) (by omega) (fun h30 => ?_) (fun h30 => absurd h30 (by omega))
      refine aw_iconst dX6_rule_40 ?_
      refine aw_istore (L2 := [_, _, _, _, _, _]) dX6_rule_41 (by decide) rfl rfl ?_
      refine lX6_rule _ (r1.sc p3.sc) hV (s1.pr p3) hbr (by omega) (fun g4 p4 => ?_) 3 1 0 _ _ _ (by omega) (by omega) (am_1 _).symm rfl prM.rf
      exact h1 (by omega) hbr g4 ((r1.sc p3.sc).sc p4.sc) ((c1.tr p3.sc.c).tr p4.sc.c)
  · refine aw_aload_n dX6_rule_9 rfl ?_
    refine aw_bipush dX6_rule_10 (by decide) ?_
    refine aw_V1 dX6_rule_12 okX6_refuses lkX6_68 rfl rfl rfl ?_
    refine zX6_ref0 _ hR hV (fun g2 r2 c2 => ?_)
    refine aw_iret dX6_rule_15 rfl ?_
    exact h2 (by omega) g2 r2 c2
theorem lX6_rank (d : Nat) {B : Int} {Z : zZ} {a l : Int} {g : sp_G} {Q : sp_P} (hR : mRep g Z) (hV : zV B Z) (ha : 0 ≤ a ∧ a ≤ 23) (hl : 0 ≤ l ∧ l ≤ 3) (hQ : Q (some (v_i (rk (zd (zt Z)) l ((zd (zt Z)) (l * 24 + a)) a))) g) :
    ∀ (n : Nat) (b t : Int), 0 ≤ b → b + n = a → t = rk (zd (zt Z)) l ((zd (zt Z)) (l * 24 + a)) b → sp_AW mX6_rank (d + 1) 5 [some (v_r 52), some (v_i a), some (v_i l), some (v_i t), some (v_i b)] [] g Q := by
  intro n
  induction n with
  | zero =>
    intro b t h0 hn et
    have eb : b = a := by omega
    refine aw_iload dX6_rank_5 rfl ?_
    refine aw_iload_n dX6_rank_7 rfl ?_
    refine aw_icmp_ge (tg := 41) dX6_rank_8 (by decide) (by omega) (fun h8 => ?_) (fun h8 => absurd h8 (by omega))
    refine aw_iload_n dX6_rank_41 rfl ?_
    refine aw_iret dX6_rank_42 rfl ?_
    rw [et, eb]
    exact hQ
  | succ n ih =>
    intro b t h0 hn et
    have tb := rk_b (di := (zd (zt Z))) (l := l) (e := (zd (zt Z)) (l * 24 + a)) h0
    have hs := rk_s (di := (zd (zt Z))) (l := l) (e := (zd (zt Z)) (l * 24 + a)) h0
    have d1 := hV.1.2.1 (l * 24 + a) (by omega) (by omega)
    have d2 := hV.1.2.1 (l * 24 + b) (by omega) (by omega)
    refine aw_iload dX6_rank_5 rfl ?_
    refine aw_iload_n dX6_rank_7 rfl ?_
    refine aw_icmp_ge (tg := 41) dX6_rank_8 (by decide) (by omega) (fun h8 => absurd h8 (by omega)) (fun h8 => ?_)
    refine aw_iload_n dX6_rank_11 rfl ?_
    refine aw_aload_n dX6_rank_12 rfl ?_
    refine aw_iload_n dX6_rank_13 rfl ?_
    refine aw_iload dX6_rank_14 rfl ?_
    refine aw_V2 dX6_rank_16 okX6_district lkX6_79 rfl rfl rfl ?_
    refine tX6_district _ hR.di (by omega) ?_
    refine aw_aload_n dX6_rank_19 rfl ?_
    refine aw_iload_n dX6_rank_20 rfl ?_
    refine aw_iload_n dX6_rank_21 rfl ?_
    refine aw_V2 dX6_rank_22 okX6_district lkX6_79 rfl rfl rfl ?_
    refine tX6_district _ hR.di (by omega) ?_
    refine aw_icmp_ne (tg := 32) dX6_rank_25 (by decide) (by omega) (fun h25 => ?_) (fun h25 => ?_)
    · refine aw_iconst dX6_rank_32 ?_
      refine aw_iadd dX6_rank_33 ?_
      refine aw_istore_n (L2 := [_, _, _, _, _]) dX6_rank_34 (by decide) rfl rfl ?_
      refine aw_iinc (L2 := [_, _, _, _, _]) dX6_rank_35 rfl (by decide) rfl rfl ?_
      refine aw_goto (tg := 5) dX6_rank_38 (by decide) ?_
      rw [if_neg h25] at hs
      exact ih (b + 1) _ (by omega) (by omega) (by rw [hs, et])
    · refine aw_iconst dX6_rank_28 ?_
      refine aw_goto (tg := 33) dX6_rank_29 (by decide) ?_
      refine aw_iadd dX6_rank_33 ?_
      refine aw_istore_n (L2 := [_, _, _, _, _]) dX6_rank_34 (by decide) rfl rfl ?_
      refine aw_iinc (L2 := [_, _, _, _, _]) dX6_rank_35 rfl (by decide) rfl rfl ?_
      refine aw_goto (tg := 5) dX6_rank_38 (by decide) ?_
      rw [if_pos (by assumption)] at hs
      exact ih (b + 1) _ (by omega) (by omega) (by rw [hs, et])
theorem zX6_rank (d : Nat) {B : Int} {Z : zZ} {a l : Int} {g : sp_G} {Q : sp_P} (hR : mRep g Z) (hV : zV B Z) (ha : 0 ≤ a ∧ a ≤ 23) (hl : 0 ≤ l ∧ l ≤ 3) (hQ : Q (some (v_i (rk (zd (zt Z)) l ((zd (zt Z)) (l * 24 + a)) a))) g) : sp_Met (d + 1) mX6_rank [v_r 52, v_i a, v_i l] g Q := by
  refine sp_of (L := [_, _, _, _, _]) (by decide) (Nat.le_of_ble_eq_true rfl) rfl rfl ?_
  refine aw_iconst dX6_rank_0 ?_
  refine aw_istore_n (L2 := [_, _, _, _, _]) dX6_rank_1 (by decide) rfl rfl ?_
  refine aw_iconst dX6_rank_2 ?_
  refine aw_istore (L2 := [_, _, _, _, _]) dX6_rank_3 (by decide) rfl rfl ?_
  exact lX6_rank _ hR hV ha hl hQ a.toNat 0 0 (by omega) (by omega) rfl
theorem zX6_leader (d : Nat) {B : Int} {Z : zZ} {a l : Int} {g : sp_G} {Q : sp_P} (hR : mRep g Z) (hV : zV B Z) (ha : 0 ≤ a ∧ a ≤ 23) (hl : 0 ≤ l ∧ l ≤ 3) (hQ : Q (some (v_i (zld Z l a))) g) : sp_Met (d + 2) mX6_leader [v_r 52, v_i a, v_i l] g Q := by
  have rb := rk_b (di := (zd (zt Z))) (l := l) (e := (zd (zt Z)) (l * 24 + a)) ha.1
  have zb := zld_b hV hl ha
  refine sp_of (L := [_, _, _]) (by decide) (Nat.le_of_ble_eq_true rfl) rfl rfl ?_
  refine aw_aload_n dX6_leader_0 rfl ?_
  refine aw_iload_n dX6_leader_1 rfl ?_
  refine aw_iload_n dX6_leader_2 rfl ?_
  refine aw_V2 dX6_leader_3 okX6_rank lkX6_205 rfl rfl rfl ?_
  refine zX6_rank _ hR hV ha hl ?_
  refine aw_aload_n dX6_leader_6 rfl ?_
  refine aw_iload_n dX6_leader_7 rfl ?_
  refine aw_aload_n dX6_leader_8 rfl ?_
  refine aw_iload_n dX6_leader_9 rfl ?_
  refine aw_iload_n dX6_leader_10 rfl ?_
  refine aw_V2 dX6_leader_11 okX6_district lkX6_79 rfl rfl rfl ?_
  refine tX6_district _ hR.di (by omega) ?_
  refine aw_V2 dX6_leader_14 okX6_namesOf lkX6_179 rfl rfl rfl ?_
  refine tX6_namesOf _ hR.na (by omega) ?_
  refine aw_irem dX6_leader_17 (by omega) ?_
  refine aw_iret dX6_leader_18 rfl ?_
  exact hQ
theorem rX6_leads (d : Nat) {B : Int} {Z : zZ} {a l : Int} {g : sp_G} {Q : sp_P} (hR : mRep g Z) (hV : zV B Z) (hr : ((-2147483648 ≤ a ∧ a < 2147483648)) ∧ ((-2147483648 ≤ l ∧ l < 2147483648))) (h1 : ((0 ≤ a ∧ a ≤ 23) ∧ (0 ≤ l ∧ l ≤ 3)) → ∀ g2 : sp_G, mRep g2 Z → fCo g g2 → Q (some (v_i (if bt (zo (zt Z)) l = 1 then zld Z l a else -1))) g2) (h2 : ¬ (((0 ≤ a ∧ a ≤ 23) ∧ (0 ≤ l ∧ l ≤ 3))) → ∀ g2 : sp_G, mRep g2 (zr 3 Z) → fCo g g2 → Q (some (v_i (-2))) g2) : sp_Met (d + 8) mX6_leads [v_r 52, v_i a, v_i l] g Q := by
  refine sp_of (L := [_, _, _]) (by decide) (Nat.le_of_ble_eq_true rfl) rfl rfl ?_
  refine aw_iload_n dX6_leads_0 rfl ?_
  refine aw_S1 dX6_leads_1 okX6_isBlock lkX6_85 rfl ?_
  refine tX6_isBlock _ (by omega) ?_
  refine aw_ifeq_b (tg := 14) dX6_leads_4 (by decide) (fun h4 => ?_) (fun h4 => ?_)
  · refine aw_aload_n dX6_leads_14 rfl ?_
    refine aw_bipush dX6_leads_15 (by decide) ?_
    refine aw_V1 dX6_leads_17 okX6_refuses lkX6_68 rfl rfl rfl ?_
    refine zX6_ref0 _ hR hV (fun g2 r2 c2 => ?_)
    refine aw_iret dX6_leads_20 rfl ?_
    exact h2 (by omega) g2 r2 c2
  · refine aw_iload_n dX6_leads_7 rfl ?_
    refine aw_S1 dX6_leads_8 okX6_isLayer lkX6_65 rfl ?_
    refine tX6_isLayer _ (by omega) ?_
    refine aw_ifne_b (tg := 21) dX6_leads_11 (by decide) (fun h11 => ?_) (fun h11 => ?_)
    · refine aw_aload_n dX6_leads_21 rfl ?_
      refine aw_iload_n dX6_leads_22 rfl ?_
      refine aw_V1 dX6_leads_23 okX6_isOn lkX6_61 rfl rfl rfl ?_
      refine tX6_isOn _ hR.on (bt_01 (on := (zo (zt Z))) (l := l) hV.1.2.2.2 (by omega)) ?_
      refine aw_ifeq_b (tg := 38) dX6_leads_26 (by decide) (fun h26 => ?_) (fun h26 => ?_)
      · refine aw_iconst dX6_leads_38 ?_
        refine aw_iret dX6_leads_39 rfl ?_
        have e9 := h1 (by omega) g hR fCo.rf
        rwa [if_neg (by assumption)] at e9
      · refine aw_aload_n dX6_leads_29 rfl ?_
        refine aw_iload_n dX6_leads_30 rfl ?_
        refine aw_iload_n dX6_leads_31 rfl ?_
        refine aw_V2 dX6_leads_32 okX6_leader lkX6_208 rfl rfl rfl ?_
        refine zX6_leader _ hR hV (by omega) (by omega) ?_
        refine aw_goto (tg := 39) dX6_leads_35 (by decide) ?_
        refine aw_iret dX6_leads_39 rfl ?_
        have e9 := h1 (by omega) g hR fCo.rf
        rwa [if_pos (by assumption)] at e9
    · refine aw_aload_n dX6_leads_14 rfl ?_
      refine aw_bipush dX6_leads_15 (by decide) ?_
      refine aw_V1 dX6_leads_17 okX6_refuses lkX6_68 rfl rfl rfl ?_
      refine zX6_ref0 _ hR hV (fun g2 r2 c2 => ?_)
      refine aw_iret dX6_leads_20 rfl ?_
      exact h2 (by omega) g2 r2 c2
