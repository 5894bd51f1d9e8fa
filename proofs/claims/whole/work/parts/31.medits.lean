theorem zX6_turns (d : Nat) {B : Int} {Z : zZ} {l to : Int} {g : sp_G} {Q : sp_P} (hR : mRep g Z) (hV : zV B Z) (hl : 0 ≤ l ∧ l ≤ 3) (ht : 0 ≤ to ∧ to ≤ 1) (hQ : ∀ g2 : sp_G, mRep g2 (zw ((zp (zt Z)), (zd (zt Z)), (zm (zt Z)), sw (zo (zt Z)) l to) Z) → fCo g g2 → (∀ j, g2 52 j = g 52 j) → Q (some (v_i (if bt (zo (zt Z)) l = to then 0 else 1))) g2) : sp_Met (d + 1) mX6_turns [v_r 52, v_i l, v_i to] g Q := by
  refine sp_of (L := [_, _, _, _]) (by decide) (Nat.le_of_ble_eq_true rfl) rfl rfl ?_
  have hon := hR.on
  have hb := bt_01 (on := (zo (zt Z))) (l := l) hV.1.2.2.2 (by omega)
  have hsw := (sw_eq (on := (zo (zt Z))) (l := l) (to := to) hV.1.2.2.2 (by omega) (by omega)).1
  have fin : ∀ x : Int, x = sw (zo (zt Z)) l to → mRep (sp_up g 53 144 x) (zw ((zp (zt Z)), (zd (zt Z)), (zm (zt Z)), sw (zo (zt Z)) l to) Z) ∧ fCo g (sp_up g 53 144 x) := by
    intro x ex
    refine ⟨hR.town (sp_fr.rf.up (by decide)) (flt_of (T := ((zp (zt Z)), (zd (zt Z)), (zm (zt Z)), sw (zo (zt Z)) l to)) (hR.pe.out (by omega)) (hR.di.out (by omega)) (hR.na.out (by omega)) ?_), fCo.rf.up (by decide)⟩
    show sp_up g 53 144 x 53 144 = _
    rw [sp_up_s, ex]
    rfl
  refine aw_aload_n dX6_turns_0 rfl ?_
  refine aw_iload_n dX6_turns_1 rfl ?_
  refine aw_V1 dX6_turns_2 okX6_isOn lkX6_61 rfl rfl rfl ?_
  refine tX6_isOn _ hon hb ?_
  refine aw_ifeq_b (tg := 12) dX6_turns_5 (by decide) (fun h5 => ?_) (fun h5 => ?_)
  · refine aw_iconst dX6_turns_12 ?_
    refine aw_istore_n (L2 := [_, _, _, _]) dX6_turns_13 (by decide) rfl rfl ?_
    refine aw_aload_n dX6_turns_14 rfl ?_
    refine aw_getR dX6_turns_15 flX6_7 rfl rfl ?_
    refine aw_sipush dX6_turns_18 (by decide) ?_
    refine aw_aload_n dX6_turns_21 rfl ?_
    refine aw_getR dX6_turns_22 flX6_7 rfl rfl ?_
    refine aw_sipush dX6_turns_25 (by decide) ?_
    refine aw_iald dX6_turns_28 rfl (by omega) ?_
    rw [hon]
    refine aw_iconst dX6_turns_29 ?_
    refine aw_iload_n dX6_turns_30 rfl ?_
    refine aw_ishl dX6_turns_31 ?_
    refine aw_iconst dX6_turns_32 ?_
    refine aw_ixor dX6_turns_33 ?_
    refine aw_iand dX6_turns_34 ?_
    refine aw_iload_n dX6_turns_35 rfl ?_
    refine aw_iload_n dX6_turns_36 rfl ?_
    refine aw_ishl dX6_turns_37 ?_
    refine aw_ior dX6_turns_38 ?_
    refine aw_iast dX6_turns_39 rfl (by omega) ?_
    refine aw_iload_n dX6_turns_40 rfl ?_
    refine aw_iload_n dX6_turns_41 rfl ?_
    refine aw_icmp_ne (tg := 49) dX6_turns_42 (by decide) (by omega) (fun h42 => ?_) (fun h42 => ?_)
    · refine aw_iconst dX6_turns_49 ?_
      refine aw_iret dX6_turns_50 rfl ?_
      have hq := fin _ hsw.symm
      have e9 := hQ _ hq.1 hq.2 (fun j => sp_up_o _ _ _ _ (by decide))
      first | rwa [if_neg (by omega)] at e9 | rwa [if_pos (by omega)] at e9
    · refine aw_iconst dX6_turns_45 ?_
      refine aw_goto (tg := 50) dX6_turns_46 (by decide) ?_
      refine aw_iret dX6_turns_50 rfl ?_
      have hq := fin _ hsw.symm
      have e9 := hQ _ hq.1 hq.2 (fun j => sp_up_o _ _ _ _ (by decide))
      first | rwa [if_neg (by omega)] at e9 | rwa [if_pos (by omega)] at e9
  · refine aw_iconst dX6_turns_8 ?_
    refine aw_goto (tg := 13) dX6_turns_9 (by decide) ?_
    refine aw_istore_n (L2 := [_, _, _, _]) dX6_turns_13 (by decide) rfl rfl ?_
    refine aw_aload_n dX6_turns_14 rfl ?_
    refine aw_getR dX6_turns_15 flX6_7 rfl rfl ?_
    refine aw_sipush dX6_turns_18 (by decide) ?_
    refine aw_aload_n dX6_turns_21 rfl ?_
    refine aw_getR dX6_turns_22 flX6_7 rfl rfl ?_
    refine aw_sipush dX6_turns_25 (by decide) ?_
    refine aw_iald dX6_turns_28 rfl (by omega) ?_
    rw [hon]
    refine aw_iconst dX6_turns_29 ?_
    refine aw_iload_n dX6_turns_30 rfl ?_
    refine aw_ishl dX6_turns_31 ?_
    refine aw_iconst dX6_turns_32 ?_
    refine aw_ixor dX6_turns_33 ?_
    refine aw_iand dX6_turns_34 ?_
    refine aw_iload_n dX6_turns_35 rfl ?_
    refine aw_iload_n dX6_turns_36 rfl ?_
    refine aw_ishl dX6_turns_37 ?_
    refine aw_ior dX6_turns_38 ?_
    refine aw_iast dX6_turns_39 rfl (by omega) ?_
    refine aw_iload_n dX6_turns_40 rfl ?_
    refine aw_iload_n dX6_turns_41 rfl ?_
    refine aw_icmp_ne (tg := 49) dX6_turns_42 (by decide) (by omega) (fun h42 => ?_) (fun h42 => ?_)
    · refine aw_iconst dX6_turns_49 ?_
      refine aw_iret dX6_turns_50 rfl ?_
      have hq := fin _ hsw.symm
      have e9 := hQ _ hq.1 hq.2 (fun j => sp_up_o _ _ _ _ (by decide))
      first | rwa [if_neg (by omega)] at e9 | rwa [if_pos (by omega)] at e9
    · refine aw_iconst dX6_turns_45 ?_
      refine aw_goto (tg := 50) dX6_turns_46 (by decide) ?_
      refine aw_iret dX6_turns_50 rfl ?_
      have hq := fin _ hsw.symm
      have e9 := hQ _ hq.1 hq.2 (fun j => sp_up_o _ _ _ _ (by decide))
      first | rwa [if_neg (by omega)] at e9 | rwa [if_pos (by omega)] at e9
theorem rX6_on (d : Nat) {B : Int} {Z : zZ} {l to : Int} {g : sp_G} {Q : sp_P} (hR : mRep g Z) (hV : zV B Z) (hr : ((-2147483648 ≤ l ∧ l < 2147483648)) ∧ ((-2147483648 ≤ to ∧ to < 2147483648))) (h1 : ((0 ≤ l ∧ l ≤ 3) ∧ (0 ≤ to ∧ to ≤ 1)) → ∀ g2 : sp_G, mRep g2 (zw ((zp (zt Z)), (zd (zt Z)), (zm (zt Z)), sw (zo (zt Z)) l to) (zk Z)) → fCo g g2 → Q (some (v_i (if bt (zo (zt Z)) l = to then 0 else 1))) g2) (h2 : ¬ (((0 ≤ l ∧ l ≤ 3) ∧ (0 ≤ to ∧ to ≤ 1))) → ∀ g2 : sp_G, mRep g2 (zr 3 Z) → fCo g g2 → Q (some (v_i (-2))) g2) : sp_Met (d + 8) mX6_on [v_r 52, v_i l, v_i to] g Q := by
  refine sp_of (L := [_, _, _]) (by decide) (Nat.le_of_ble_eq_true rfl) rfl rfl ?_
  refine aw_iload_n dX6_on_0 rfl ?_
  refine aw_S1 dX6_on_1 okX6_isLayer lkX6_65 rfl ?_
  refine tX6_isLayer _ (by omega) ?_
  refine aw_ifeq_b (tg := 16) dX6_on_4 (by decide) (fun h4 => ?_) (fun h4 => ?_)
  · refine aw_aload_n dX6_on_16 rfl ?_
    refine aw_bipush dX6_on_17 (by decide) ?_
    refine aw_V1 dX6_on_19 okX6_refuses lkX6_68 rfl rfl rfl ?_
    refine zX6_ref0 _ hR hV (fun g2 r2 c2 => ?_)
    refine aw_iret dX6_on_22 rfl ?_
    exact h2 (by omega) g2 r2 c2
  · refine aw_iload_n dX6_on_7 rfl ?_
    refine aw_iconst dX6_on_8 ?_
    refine aw_iconst dX6_on_9 ?_
    refine aw_S3 dX6_on_10 okX6_in lkX6_53 rfl ?_
    refine tX6_in _ (by omega) ?_
    refine aw_ifne_b (tg := 23) dX6_on_13 (by decide) (fun h13 => ?_) (fun h13 => ?_)
    · refine aw_aload_n dX6_on_23 rfl ?_
      refine aw_V0 dX6_on_24 okX6_keeps lkX6_72 rfl rfl rfl ?_
      refine tX6_keepsZ _ hR hV (fun g2 r2 c2 => ?_)
      have v2 := zk_V hV
      refine aw_aload_n dX6_on_27 rfl ?_
      refine aw_iload_n dX6_on_28 rfl ?_
      refine aw_iload_n dX6_on_29 rfl ?_
      refine aw_V2 dX6_on_30 okX6_turns lkX6_75 rfl rfl rfl ?_
      refine zX6_turns _ r2 v2 (by omega) (by omega) (fun g3 r3 c3 _ => ?_)
      refine aw_iret dX6_on_33 rfl ?_
      exact h1 (by omega) g3 r3 (c2.tr c3)
    · refine aw_aload_n dX6_on_16 rfl ?_
      refine aw_bipush dX6_on_17 (by decide) ?_
      refine aw_V1 dX6_on_19 okX6_refuses lkX6_68 rfl rfl rfl ?_
      refine zX6_ref0 _ hR hV (fun g2 r2 c2 => ?_)
      refine aw_iret dX6_on_22 rfl ?_
      exact h2 (by omega) g2 r2 c2
theorem lX6_lays (d : Nat) {l e a b : Int} {di : Int → Int} {g0 : sp_G} {Q : sp_P} (hl : 0 ≤ l ∧ l ≤ 3) (he : 0 ≤ e ∧ e ≤ 5) (ha : 0 ≤ a ∧ a ≤ 23) (hb : 0 ≤ b ∧ b ≤ 23) (hv : ∀ i, 0 ≤ i → i < 96 → 0 ≤ di i ∧ di i ≤ 5) (hQ : ∀ (many : Int) (g : sp_G), pr_I l e a b di 53 24 g0 g 24 many → Q (some (v_i many)) g) :
    ∀ (m : Nat) (k n : Int) (g : sp_G), 0 ≤ k → k + m = 24 → pr_I l e a b di 53 24 g0 g k n → sp_AW mX6_lays (d + 1) 6 [some (v_r 52), some (v_i l), some (v_i e), some (v_i a), some (v_i b), some (v_i n), some (v_i k)] [] g Q := by
  intro m
  induction m with
  | zero =>
    intro k n g h0 hn hI
    have ek : k = 24 := by omega
    subst ek
    refine aw_iload dX6_lays_6 rfl ?_
    refine aw_bipush dX6_lays_8 (by decide) ?_
    refine aw_icmp_ge (tg := 90) dX6_lays_10 (by decide) (by omega) (fun h10 => ?_) (fun h10 => absurd h10 (by omega))
    refine aw_iload dX6_lays_90 rfl ?_
    refine aw_iret dX6_lays_92 rfl ?_
    exact hQ n g hI
  | succ m ih =>
    intro k n g h0 hn hI
    obtain ⟨i1, i2, i3, i4⟩ := hI
    have hdv := hv (l * 24 + k) (by omega) (by omega)
    have hcur : pr_D l e a b di k (l * 24 + k) = di (l * 24 + k) := by unfold pr_D; rw [if_neg (by omega)]
    refine aw_iload dX6_lays_6 rfl ?_
    refine aw_bipush dX6_lays_8 (by decide) ?_
    refine aw_icmp_ge (tg := 90) dX6_lays_10 (by decide) (by omega) (fun h10 => absurd h10 (by omega)) (fun h10 => ?_)
    refine aw_iload dX6_lays_13 rfl ?_
    refine aw_iconst dX6_lays_15 ?_
    refine aw_idiv dX6_lays_16 (by omega) ?_
    refine aw_iload_n dX6_lays_17 rfl ?_
    refine aw_iconst dX6_lays_18 ?_
    refine aw_idiv dX6_lays_19 (by omega) ?_
    refine aw_iload dX6_lays_20 rfl ?_
    refine aw_iconst dX6_lays_22 ?_
    refine aw_idiv dX6_lays_23 (by omega) ?_
    refine aw_S3 dX6_lays_24 okX6_in lkX6_53 rfl ?_
    refine tX6_in _ (by omega) ?_
    refine aw_ifeq_b (tg := 84) dX6_lays_27 (by decide) (fun h27 => ?_) (fun h27 => ?_)
    · refine aw_iinc (L2 := [_, _, _, _, _, _, _]) dX6_lays_84 rfl (by decide) rfl rfl ?_
      refine aw_goto (tg := 6) dX6_lays_87 (by decide) ?_
      have hq : ¬ inQ a b k := by unfold inQ; omega
      refine ih (k + 1) _ _ (by omega) (by omega) ⟨?_, i2, i3.c (fun t h0 h1 => pr_D_f (by omega) (fun q h2 h3 => by rw [show q = k by omega]; exact hq) t), i4⟩
      rw [sI_s _ h0, ← i1]
      unfold pr_F
      rw [if_neg hq]
      omega
    · refine aw_iload dX6_lays_30 rfl ?_
      refine aw_iconst dX6_lays_32 ?_
      refine aw_irem dX6_lays_33 (by omega) ?_
      refine aw_iload_n dX6_lays_34 rfl ?_
      refine aw_iconst dX6_lays_35 ?_
      refine aw_irem dX6_lays_36 (by omega) ?_
      refine aw_iload dX6_lays_37 rfl ?_
      refine aw_iconst dX6_lays_39 ?_
      refine aw_irem dX6_lays_40 (by omega) ?_
      refine aw_S3 dX6_lays_41 okX6_in lkX6_53 rfl ?_
      refine tX6_in _ (by omega) ?_
      refine aw_ifeq_b (tg := 84) dX6_lays_44 (by decide) (fun h44 => ?_) (fun h44 => ?_)
      · refine aw_iinc (L2 := [_, _, _, _, _, _, _]) dX6_lays_84 rfl (by decide) rfl rfl ?_
        refine aw_goto (tg := 6) dX6_lays_87 (by decide) ?_
        have hq : ¬ inQ a b k := by unfold inQ; omega
        refine ih (k + 1) _ _ (by omega) (by omega) ⟨?_, i2, i3.c (fun t h0 h1 => pr_D_f (by omega) (fun q h2 h3 => by rw [show q = k by omega]; exact hq) t), i4⟩
        rw [sI_s _ h0, ← i1]
        unfold pr_F
        rw [if_neg hq]
        omega
      · refine aw_iload dX6_lays_47 rfl ?_
        refine aw_aload_n dX6_lays_49 rfl ?_
        refine aw_iload_n dX6_lays_50 rfl ?_
        refine aw_iload dX6_lays_51 rfl ?_
        refine aw_V2 dX6_lays_53 okX6_district lkX6_79 rfl rfl rfl ?_
        have hq : inQ a b k := by unfold inQ; omega
        refine tX6_district _ i3 (by omega) ?_
        rw [hcur]
        refine aw_iload_n dX6_lays_56 rfl ?_
        refine aw_icmp_ne (tg := 64) dX6_lays_57 (by decide) (by omega) (fun h57 => ?_) (fun h57 => ?_)
        · refine aw_iconst dX6_lays_64 ?_
          refine aw_iadd dX6_lays_65 ?_
          refine aw_istore (L2 := [_, _, _, _, _, _, _]) dX6_lays_66 (by decide) rfl rfl ?_
          refine aw_aload_n dX6_lays_68 rfl ?_
          refine aw_getR dX6_lays_69 flX6_7 rfl rfl ?_
          refine aw_bipush dX6_lays_72 (by decide) ?_
          refine aw_bipush dX6_lays_74 (by decide) ?_
          refine aw_iload_n dX6_lays_76 rfl ?_
          refine aw_imul dX6_lays_77 ?_
          refine aw_iadd dX6_lays_78 ?_
          refine aw_iload dX6_lays_79 rfl ?_
          refine aw_iadd dX6_lays_81 ?_
          refine aw_iload_n dX6_lays_82 rfl ?_
          refine aw_iast dX6_lays_83 rfl (by omega) ?_
          refine aw_iinc (L2 := [_, _, _, _, _, _, _]) dX6_lays_84 rfl (by decide) rfl rfl ?_
          refine aw_goto (tg := 6) dX6_lays_87 (by decide) ?_
          refine ih (k + 1) _ _ (by omega) (by omega) ⟨?_, i2.up (by decide), ?_, fun j hj => ?_⟩
          · rw [sI_s _ h0, ← i1]
            unfold pr_F
            rw [if_pos hq]
            rw [if_neg h57]
          · exact (i3.up (i := l * 24 + k) (by omega)).c (fun t _ _ => pr_D_s h0 hq t)
          · rw [sp_up_i _ _ _ _ (by omega), i4 j hj]
        · refine aw_iconst dX6_lays_60 ?_
          refine aw_goto (tg := 65) dX6_lays_61 (by decide) ?_
          refine aw_iadd dX6_lays_65 ?_
          refine aw_istore (L2 := [_, _, _, _, _, _, _]) dX6_lays_66 (by decide) rfl rfl ?_
          refine aw_aload_n dX6_lays_68 rfl ?_
          refine aw_getR dX6_lays_69 flX6_7 rfl rfl ?_
          refine aw_bipush dX6_lays_72 (by decide) ?_
          refine aw_bipush dX6_lays_74 (by decide) ?_
          refine aw_iload_n dX6_lays_76 rfl ?_
          refine aw_imul dX6_lays_77 ?_
          refine aw_iadd dX6_lays_78 ?_
          refine aw_iload dX6_lays_79 rfl ?_
          refine aw_iadd dX6_lays_81 ?_
          refine aw_iload_n dX6_lays_82 rfl ?_
          refine aw_iast dX6_lays_83 rfl (by omega) ?_
          refine aw_iinc (L2 := [_, _, _, _, _, _, _]) dX6_lays_84 rfl (by decide) rfl rfl ?_
          refine aw_goto (tg := 6) dX6_lays_87 (by decide) ?_
          refine ih (k + 1) _ _ (by omega) (by omega) ⟨?_, i2.up (by decide), ?_, fun j hj => ?_⟩
          · rw [sI_s _ h0, ← i1]
            unfold pr_F
            rw [if_pos hq]
            rw [if_pos h57]
          · exact (i3.up (i := l * 24 + k) (by omega)).c (fun t _ _ => pr_D_s h0 hq t)
          · rw [sp_up_i _ _ _ _ (by omega), i4 j hj]
theorem zX6_lays (d : Nat) {B : Int} {Z : zZ} {l e a b : Int} {g : sp_G} {Q : sp_P} (hR : mRep g Z) (hV : zV B Z) (hl : 0 ≤ l ∧ l ≤ 3) (he : 0 ≤ e ∧ e ≤ 5) (ha : 0 ≤ a ∧ a ≤ 23) (hb : 0 ≤ b ∧ b ≤ 23) (hQ : ∀ g2 : sp_G, mRep g2 (zw ((zp (zt Z)), pr_D l e a b (zd (zt Z)) 24, (zm (zt Z)), (zo (zt Z))) Z) → fCo g g2 → (∀ j, g2 52 j = g 52 j) → Q (some (v_i (sI (pr_F l e a b (zd (zt Z))) 24))) g2) : sp_Met (d + 1) mX6_lays [v_r 52, v_i l, v_i e, v_i a, v_i b] g Q := by
  refine sp_of (L := [_, _, _, _, _, _, _]) (by decide) (Nat.le_of_ble_eq_true rfl) rfl rfl ?_
  refine aw_iconst dX6_lays_0 ?_
  refine aw_istore (L2 := [_, _, _, _, _, _, _]) dX6_lays_1 (by decide) rfl rfl ?_
  refine aw_iconst dX6_lays_3 ?_
  refine aw_istore (L2 := [_, _, _, _, _, _, _]) dX6_lays_4 (by decide) rfl rfl ?_
  refine lX6_lays d hl he ha hb hV.1.2.1 (g0 := g) (fun many g2 hI => ?_) 24 0 _ _ (by omega) (by omega) ⟨rfl, sp_fr.rf, by rw [pr_D_0]; exact hR.di, fun j hj => rfl⟩
  obtain ⟨i1, i2, i3, i4⟩ := hI
  rw [i1]
  refine hQ g2 (hR.town (i2.wk (by decide)) (flt_of (T := ((zp (zt Z)), pr_D l e a b (zd (zt Z)) 24, (zm (zt Z)), (zo (zt Z)))) (fun i j i0 i1 q => ?_) i3 (fun i j i0 i1 q => ?_) ?_)) (fCo.fr i2 (by decide)) (i2 52 (by decide))
  · rw [i4 j (by omega)]; exact hR.pe i j i0 i1 q
  · rw [i4 j (by omega)]; exact hR.na i j i0 i1 q
  · rw [i4 _ (by omega)]; exact hR.on
theorem rX6_puts (d : Nat) {B : Int} {Z : zZ} {l e a b : Int} {g : sp_G} {Q : sp_P} (hR : mRep g Z) (hV : zV B Z) (hr : ((-2147483648 ≤ l ∧ l < 2147483648)) ∧ ((-2147483648 ≤ e ∧ e < 2147483648)) ∧ ((-2147483648 ≤ a ∧ a < 2147483648)) ∧ ((-2147483648 ≤ b ∧ b < 2147483648))) (h1 : ((0 ≤ l ∧ l ≤ 3) ∧ (0 ≤ e ∧ e ≤ 5) ∧ (0 ≤ a ∧ a ≤ 23) ∧ (0 ≤ b ∧ b ≤ 23) ∧ a / 4 ≤ b / 4 ∧ a % 4 ≤ b % 4) → ∀ g2 : sp_G, mRep g2 (zw ((zp (zt Z)), pr_D l e a b (zd (zt Z)) 24, (zm (zt Z)), (zo (zt Z))) (zk Z)) → fCo g g2 → Q (some (v_i (sI (pr_F l e a b (zd (zt Z))) 24))) g2) (h2 : ¬ (((0 ≤ l ∧ l ≤ 3) ∧ (0 ≤ e ∧ e ≤ 5) ∧ (0 ≤ a ∧ a ≤ 23) ∧ (0 ≤ b ∧ b ≤ 23) ∧ a / 4 ≤ b / 4 ∧ a % 4 ≤ b % 4)) → ∀ g2 : sp_G, mRep g2 (zr 3 Z) → fCo g g2 → Q (some (v_i (-2))) g2) : sp_Met (d + 8) mX6_puts [v_r 52, v_i l, v_i e, v_i a, v_i b] g Q := by
  refine sp_of (L := [_, _, _, _, _]) (by decide) (Nat.le_of_ble_eq_true rfl) rfl rfl ?_
  refine aw_iload_n dX6_puts_0 rfl ?_
  refine aw_S1 dX6_puts_1 okX6_isLayer lkX6_65 rfl ?_
  refine tX6_isLayer _ (by omega) ?_
  refine aw_ifeq_b (tg := 38) dX6_puts_4 (by decide) (fun h4 => ?_) (fun h4 => ?_)
  · refine aw_aload_n dX6_puts_38 rfl ?_
    refine aw_bipush dX6_puts_39 (by decide) ?_
    refine aw_V1 dX6_puts_41 okX6_refuses lkX6_68 rfl rfl rfl ?_
    refine zX6_ref0 _ hR hV (fun g2 r2 c2 => ?_)
    refine aw_iret dX6_puts_44 rfl ?_
    exact h2 (by omega) g2 r2 c2
  · refine aw_iload_n dX6_puts_7 rfl ?_
    refine aw_S1 dX6_puts_8 okX6_isDistrict lkX6_82 rfl ?_
    refine tX6_isDistrict _ (by omega) ?_
    refine aw_ifeq_b (tg := 38) dX6_puts_11 (by decide) (fun h11 => ?_) (fun h11 => ?_)
    · refine aw_aload_n dX6_puts_38 rfl ?_
      refine aw_bipush dX6_puts_39 (by decide) ?_
      refine aw_V1 dX6_puts_41 okX6_refuses lkX6_68 rfl rfl rfl ?_
      refine zX6_ref0 _ hR hV (fun g2 r2 c2 => ?_)
      refine aw_iret dX6_puts_44 rfl ?_
      exact h2 (by omega) g2 r2 c2
    · refine aw_iload_n dX6_puts_14 rfl ?_
      refine aw_S1 dX6_puts_15 okX6_isBlock lkX6_85 rfl ?_
      refine tX6_isBlock _ (by omega) ?_
      refine aw_ifeq_b (tg := 38) dX6_puts_18 (by decide) (fun h18 => ?_) (fun h18 => ?_)
      · refine aw_aload_n dX6_puts_38 rfl ?_
        refine aw_bipush dX6_puts_39 (by decide) ?_
        refine aw_V1 dX6_puts_41 okX6_refuses lkX6_68 rfl rfl rfl ?_
        refine zX6_ref0 _ hR hV (fun g2 r2 c2 => ?_)
        refine aw_iret dX6_puts_44 rfl ?_
        exact h2 (by omega) g2 r2 c2
      · refine aw_iload dX6_puts_21 rfl ?_
        refine aw_S1 dX6_puts_23 okX6_isBlock lkX6_85 rfl ?_
        refine tX6_isBlock _ (by omega) ?_
        refine aw_ifeq_b (tg := 38) dX6_puts_26 (by decide) (fun h26 => ?_) (fun h26 => ?_)
        · refine aw_aload_n dX6_puts_38 rfl ?_
          refine aw_bipush dX6_puts_39 (by decide) ?_
          refine aw_V1 dX6_puts_41 okX6_refuses lkX6_68 rfl rfl rfl ?_
          refine zX6_ref0 _ hR hV (fun g2 r2 c2 => ?_)
          refine aw_iret dX6_puts_44 rfl ?_
          exact h2 (by omega) g2 r2 c2
        · refine aw_iload_n dX6_puts_29 rfl ?_
          refine aw_iload dX6_puts_30 rfl ?_
          refine aw_S2 dX6_puts_32 okX6_isRectangle lkX6_88 rfl ?_
          refine tX6_isRectangle _ (by omega) (by omega) ?_
          refine aw_ifne_b (tg := 45) dX6_puts_35 (by decide) (fun h35 => ?_) (fun h35 => ?_)
          · refine aw_aload_n dX6_puts_45 rfl ?_
            refine aw_V0 dX6_puts_46 okX6_keeps lkX6_72 rfl rfl rfl ?_
            refine tX6_keepsZ _ hR hV (fun g2 r2 c2 => ?_)
            have v2 := zk_V hV
            refine aw_aload_n dX6_puts_49 rfl ?_
            refine aw_iload_n dX6_puts_50 rfl ?_
            refine aw_iload_n dX6_puts_51 rfl ?_
            refine aw_iload_n dX6_puts_52 rfl ?_
            refine aw_iload dX6_puts_53 rfl ?_
            refine aw_V4 dX6_puts_55 okX6_lays lkX6_92 rfl rfl rfl ?_
            refine zX6_lays _ r2 v2 (by omega) (by omega) (by omega) (by omega) (fun g3 r3 c3 _ => ?_)
            refine aw_iret dX6_puts_58 rfl ?_
            exact h1 (by omega) g3 r3 (c2.tr c3)
          · refine aw_aload_n dX6_puts_38 rfl ?_
            refine aw_bipush dX6_puts_39 (by decide) ?_
            refine aw_V1 dX6_puts_41 okX6_refuses lkX6_68 rfl rfl rfl ?_
            refine zX6_ref0 _ hR hV (fun g2 r2 c2 => ?_)
            refine aw_iret dX6_puts_44 rfl ?_
            exact h2 (by omega) g2 r2 c2
theorem tX6_becomes (d : Nat) {k v : Int} {g : sp_G} {Q : sp_P} (hk : 0 ≤ k ∧ k < 145) (hQ : Q (some (v_i (g 53 k))) (sp_up g 53 k v)) : sp_Met d mX6_becomes [v_r 52, v_i k, v_i v] g Q := by
  refine sp_of (L := [_, _, _, _]) (by decide) (Nat.le_of_ble_eq_true rfl) rfl rfl ?_
  refine aw_aload_n dX6_becomes_0 rfl ?_
  refine aw_getR dX6_becomes_1 flX6_7 rfl rfl ?_
  refine aw_iload_n dX6_becomes_4 rfl ?_
  refine aw_iald dX6_becomes_5 rfl (by omega) ?_
  refine aw_istore_n (L2 := [_, _, _, _]) dX6_becomes_6 (by decide) rfl rfl ?_
  refine aw_aload_n dX6_becomes_7 rfl ?_
  refine aw_getR dX6_becomes_8 flX6_7 rfl rfl ?_
  refine aw_iload_n dX6_becomes_11 rfl ?_
  refine aw_iload_n dX6_becomes_12 rfl ?_
  refine aw_iast dX6_becomes_13 rfl (by omega) ?_
  refine aw_iload_n dX6_becomes_14 rfl ?_
  refine aw_iret dX6_becomes_15 rfl ?_
  exact hQ
theorem zX6_names (d : Nat) {B : Int} {Z : zZ} {l e n k : Int} {g : sp_G} {Q : sp_P} (hR : mRep g Z) (hV : zV B Z) (hl : 0 ≤ l ∧ l ≤ 3) (he : 0 ≤ e ∧ e ≤ 5) (hk : k = 120 + (l * 6 + e)) (hQ : ∀ g2 : sp_G, mRep g2 (zw ((zp (zt Z)), (zd (zt Z)), up1 (zm (zt Z)) (l * 6 + e) n, (zo (zt Z))) Z) → fCo g g2 → (∀ j, g2 52 j = g 52 j) → Q (some (v_i ((zm (zt Z)) (l * 6 + e)))) g2) : sp_Met d mX6_becomes [v_r 52, v_i k, v_i n] g Q := by
  refine tX6_becomes d (by omega) ?_
  rw [hR.na (l * 6 + e) k (by omega) (by omega) hk]
  refine hQ _ (hR.town (sp_fr.rf.up (by decide)) (flt_of (T := ((zp (zt Z)), (zd (zt Z)), up1 (zm (zt Z)) (l * 6 + e) n, (zo (zt Z)))) (hR.pe.out (by omega)) (hR.di.out (by omega)) (hR.na.up (i := l * 6 + e) hk) ?_)) (fCo.rf.up (by decide)) (fun j => sp_up_o _ _ _ _ (by decide))
  rw [sp_up_i _ _ _ _ (by omega)]; exact hR.on
theorem zX6_voters (d : Nat) {B : Int} {Z : zZ} {a n : Int} {g : sp_G} {Q : sp_P} (hR : mRep g Z) (hV : zV B Z) (ha : 0 ≤ a ∧ a ≤ 23) (hQ : ∀ g2 : sp_G, mRep g2 (zw (up1 (zp (zt Z)) a n, (zd (zt Z)), (zm (zt Z)), (zo (zt Z))) Z) → fCo g g2 → (∀ j, g2 52 j = g 52 j) → Q (some (v_i ((zp (zt Z)) a))) g2) : sp_Met d mX6_becomes [v_r 52, v_i a, v_i n] g Q := by
  refine tX6_becomes d (by omega) ?_
  rw [hR.pe a a (by omega) (by omega) (by omega)]
  refine hQ _ (hR.town (sp_fr.rf.up (by decide)) (flt_of (T := (up1 (zp (zt Z)) a n, (zd (zt Z)), (zm (zt Z)), (zo (zt Z)))) (hR.pe.up (i := a) (by omega)) (hR.di.out (by omega)) (hR.na.out (by omega)) ?_)) (fCo.rf.up (by decide)) (fun j => sp_up_o _ _ _ _ (by decide))
  rw [sp_up_i _ _ _ _ (by omega)]; exact hR.on
theorem rX6_names (d : Nat) {B : Int} {Z : zZ} {l e n : Int} {g : sp_G} {Q : sp_P} (hR : mRep g Z) (hV : zV B Z) (hr : ((-2147483648 ≤ l ∧ l < 2147483648)) ∧ ((-2147483648 ≤ e ∧ e < 2147483648)) ∧ ((-2147483648 ≤ n ∧ n < 2147483648))) (h1 : ((0 ≤ l ∧ l ≤ 3) ∧ (0 ≤ e ∧ e ≤ 5) ∧ (1 ≤ n ∧ n ≤ 8)) → ∀ g2 : sp_G, mRep g2 (zw ((zp (zt Z)), (zd (zt Z)), up1 (zm (zt Z)) (l * 6 + e) n, (zo (zt Z))) (zk Z)) → fCo g g2 → Q (some (v_i ((zm (zt Z)) (l * 6 + e)))) g2) (h2 : ¬ (((0 ≤ l ∧ l ≤ 3) ∧ (0 ≤ e ∧ e ≤ 5) ∧ (1 ≤ n ∧ n ≤ 8))) → ∀ g2 : sp_G, mRep g2 (zr 3 Z) → fCo g g2 → Q (some (v_i (-2))) g2) : sp_Met (d + 8) mX6_names [v_r 52, v_i l, v_i e, v_i n] g Q := by
  refine sp_of (L := [_, _, _, _]) (by decide) (Nat.le_of_ble_eq_true rfl) rfl rfl ?_
  refine aw_iload_n dX6_names_0 rfl ?_
  refine aw_S1 dX6_names_1 okX6_isLayer lkX6_65 rfl ?_
  refine tX6_isLayer _ (by omega) ?_
  refine aw_ifeq_b (tg := 24) dX6_names_4 (by decide) (fun h4 => ?_) (fun h4 => ?_)
  · refine aw_aload_n dX6_names_24 rfl ?_
    refine aw_bipush dX6_names_25 (by decide) ?_
    refine aw_V1 dX6_names_27 okX6_refuses lkX6_68 rfl rfl rfl ?_
    refine zX6_ref0 _ hR hV (fun g2 r2 c2 => ?_)
    refine aw_iret dX6_names_30 rfl ?_
    exact h2 (by omega) g2 r2 c2
  · refine aw_iload_n dX6_names_7 rfl ?_
    refine aw_S1 dX6_names_8 okX6_isDistrict lkX6_82 rfl ?_
    refine tX6_isDistrict _ (by omega) ?_
    refine aw_ifeq_b (tg := 24) dX6_names_11 (by decide) (fun h11 => ?_) (fun h11 => ?_)
    · refine aw_aload_n dX6_names_24 rfl ?_
      refine aw_bipush dX6_names_25 (by decide) ?_
      refine aw_V1 dX6_names_27 okX6_refuses lkX6_68 rfl rfl rfl ?_
      refine zX6_ref0 _ hR hV (fun g2 r2 c2 => ?_)
      refine aw_iret dX6_names_30 rfl ?_
      exact h2 (by omega) g2 r2 c2
    · refine aw_iload_n dX6_names_14 rfl ?_
      refine aw_iconst dX6_names_15 ?_
      refine aw_bipush dX6_names_16 (by decide) ?_
      refine aw_S3 dX6_names_18 okX6_in lkX6_53 rfl ?_
      refine tX6_in _ (by omega) ?_
      refine aw_ifne_b (tg := 31) dX6_names_21 (by decide) (fun h21 => ?_) (fun h21 => ?_)
      · refine aw_aload_n dX6_names_31 rfl ?_
        refine aw_V0 dX6_names_32 okX6_keeps lkX6_72 rfl rfl rfl ?_
        refine tX6_keepsZ _ hR hV (fun g2 r2 c2 => ?_)
        have v2 := zk_V hV
        refine aw_aload_n dX6_names_35 rfl ?_
        refine aw_bipush dX6_names_36 (by decide) ?_
        refine aw_bipush dX6_names_38 (by decide) ?_
        refine aw_iload_n dX6_names_40 rfl ?_
        refine aw_imul dX6_names_41 ?_
        refine aw_iadd dX6_names_42 ?_
        refine aw_iload_n dX6_names_43 rfl ?_
        refine aw_iadd dX6_names_44 ?_
        refine aw_iload_n dX6_names_45 rfl ?_
        refine aw_V2 dX6_names_46 okX6_becomes lkX6_96 rfl rfl rfl ?_
        refine zX6_names (l := l) (e := e) _ r2 v2 (by omega) (by omega) (by omega) (fun g3 r3 c3 _ => ?_)
        refine aw_iret dX6_names_49 rfl ?_
        exact h1 (by omega) g3 r3 (c2.tr c3)
      · refine aw_aload_n dX6_names_24 rfl ?_
        refine aw_bipush dX6_names_25 (by decide) ?_
        refine aw_V1 dX6_names_27 okX6_refuses lkX6_68 rfl rfl rfl ?_
        refine zX6_ref0 _ hR hV (fun g2 r2 c2 => ?_)
        refine aw_iret dX6_names_30 rfl ?_
        exact h2 (by omega) g2 r2 c2
theorem rX6_voters (d : Nat) {B : Int} {Z : zZ} {a n : Int} {g : sp_G} {Q : sp_P} (hR : mRep g Z) (hV : zV B Z) (hr : ((-2147483648 ≤ a ∧ a < 2147483648)) ∧ ((-2147483648 ≤ n ∧ n < 2147483648))) (h1 : ((0 ≤ a ∧ a ≤ 23) ∧ (0 ≤ n ∧ n ≤ 99)) → ∀ g2 : sp_G, mRep g2 (zw (up1 (zp (zt Z)) a n, (zd (zt Z)), (zm (zt Z)), (zo (zt Z))) (zk Z)) → fCo g g2 → Q (some (v_i ((zp (zt Z)) a))) g2) (h2 : ¬ (((0 ≤ a ∧ a ≤ 23) ∧ (0 ≤ n ∧ n ≤ 99))) → ∀ g2 : sp_G, mRep g2 (zr 3 Z) → fCo g g2 → Q (some (v_i (-2))) g2) : sp_Met (d + 8) mX6_voters [v_r 52, v_i a, v_i n] g Q := by
  refine sp_of (L := [_, _, _]) (by decide) (Nat.le_of_ble_eq_true rfl) rfl rfl ?_
  refine aw_iload_n dX6_voters_0 rfl ?_
  refine aw_S1 dX6_voters_1 okX6_isBlock lkX6_85 rfl ?_
  refine tX6_isBlock _ (by omega) ?_
  refine aw_ifeq_b (tg := 17) dX6_voters_4 (by decide) (fun h4 => ?_) (fun h4 => ?_)
  · refine aw_aload_n dX6_voters_17 rfl ?_
    refine aw_bipush dX6_voters_18 (by decide) ?_
    refine aw_V1 dX6_voters_20 okX6_refuses lkX6_68 rfl rfl rfl ?_
    refine zX6_ref0 _ hR hV (fun g2 r2 c2 => ?_)
    refine aw_iret dX6_voters_23 rfl ?_
    exact h2 (by omega) g2 r2 c2
  · refine aw_iload_n dX6_voters_7 rfl ?_
    refine aw_iconst dX6_voters_8 ?_
    refine aw_bipush dX6_voters_9 (by decide) ?_
    refine aw_S3 dX6_voters_11 okX6_in lkX6_53 rfl ?_
    refine tX6_in _ (by omega) ?_
    refine aw_ifne_b (tg := 24) dX6_voters_14 (by decide) (fun h14 => ?_) (fun h14 => ?_)
    · refine aw_aload_n dX6_voters_24 rfl ?_
      refine aw_V0 dX6_voters_25 okX6_keeps lkX6_72 rfl rfl rfl ?_
      refine tX6_keepsZ _ hR hV (fun g2 r2 c2 => ?_)
      have v2 := zk_V hV
      refine aw_aload_n dX6_voters_28 rfl ?_
      refine aw_iload_n dX6_voters_29 rfl ?_
      refine aw_iload_n dX6_voters_30 rfl ?_
      refine aw_V2 dX6_voters_31 okX6_becomes lkX6_96 rfl rfl rfl ?_
      refine zX6_voters _ r2 v2 (by omega) (fun g3 r3 c3 _ => ?_)
      refine aw_iret dX6_voters_34 rfl ?_
      exact h1 (by omega) g3 r3 (c2.tr c3)
    · refine aw_aload_n dX6_voters_17 rfl ?_
      refine aw_bipush dX6_voters_18 (by decide) ?_
      refine aw_V1 dX6_voters_20 okX6_refuses lkX6_68 rfl rfl rfl ?_
      refine zX6_ref0 _ hR hV (fun g2 r2 c2 => ?_)
      refine aw_iret dX6_voters_23 rfl ?_
      exact h2 (by omega) g2 r2 c2
theorem lX6_draw (d : Nat) {Z : zZ} {l sd n : Int} {g0 : sp_G} {Q : sp_P} (hR : mRep g0 Z) (hl : 0 ≤ l ∧ l ≤ 3) (hs : 0 ≤ sd ∧ sd < 2147483648) (hn : 1 ≤ n ∧ n ≤ 6)
    (hQ : ∀ g : sp_G, mRep g (zw (dr_p sd, ly l (dr_d sd n) (zd (zt Z)) 24, (zm (zt Z)), (zo (zt Z))) Z) → fCo g0 g → Q (some (v_i (sI (dr_p sd) 24))) g) :
    ∀ (k : Nat) (a x all : Int) (g : sp_G), 0 ≤ a → a + k = 24 → x = dXI sd a → all = sI (dr_p sd) a → sp_fr [53] g0 g → rH g 53 0 24 (fun i => if i < a then dr_p sd i else (zp (zt Z)) i) → rH g 53 24 96 (ly l (dr_d sd n) (zd (zt Z)) a) → (∀ j, 120 ≤ j → g 53 j = g0 53 j) → sp_AW mX6_draw d 48 [some (v_r 52), some (v_i l), some (v_i sd), some (v_i n), some (v_i all), some (v_l x), none, some (v_i a)] [] g Q := by
  intro k
  induction k with
  | zero =>
    intro a x all g h0 hk ex eall hf hp hd ho
    have ea : a = 24 := by omega
    subst ea
    refine aw_iload dX6_draw_48 rfl ?_
    refine aw_bipush dX6_draw_50 (by decide) ?_
    refine aw_icmp_ge (tg := 132) dX6_draw_52 (by decide) (by omega) (fun h52 => ?_) (fun h52 => absurd h52 (by omega))
    refine aw_iload dX6_draw_132 rfl ?_
    refine aw_iret dX6_draw_134 rfl ?_
    rw [eall]
    refine hQ g (hR.town (hf.wk (by decide)) (flt_of (T := (dr_p sd, ly l (dr_d sd n) (zd (zt Z)) 24, (zm (zt Z)), (zo (zt Z)))) (hp.c (fun i h1 h2 => if_pos h2)) hd (fun i j i0 i1 q => ?_) ?_)) (fCo.fr hf (by decide))
    · rw [ho j (by omega)]; exact hR.na i j i0 i1 q
    · rw [ho _ (by omega)]; exact hR.on
  | succ k ih =>
    intro a x all g h0 hk ex eall hf hp hd ho
    have hxb := dXI_b (seed := sd) (a := a) hs
    have hxs := dXI_s (seed := sd) h0
    have hxb2 := dXI_b (seed := sd) (a := a + 1) hs
    rw [← ex] at hxs hxb
    rw [hxs] at hxb2
    have ed : (x * 1103515245 + 12345) % 2147483648 / 65536 % n = dr_d sd n a := by unfold dr_d; rw [hxs]
    have ep : (x * 1103515245 + 12345) % 2147483648 / 1024 % 30 = dr_p sd a := by unfold dr_p; rw [hxs]
    refine aw_iload dX6_draw_48 rfl ?_
    refine aw_bipush dX6_draw_50 (by decide) ?_
    refine aw_icmp_ge (tg := 132) dX6_draw_52 (by decide) (by omega) (fun h52 => absurd h52 (by omega)) (fun h52 => ?_)
    refine aw_lload dX6_draw_55 rfl ?_
    refine aw_ldc2 dX6_draw_57 kcX6_100 ?_
    refine aw_lmul dX6_draw_60 ?_
    refine aw_ldc2 dX6_draw_61 kcX6_102 ?_
    refine aw_ladd dX6_draw_64 ?_
    refine aw_ldc2 dX6_draw_65 kcX6_104 ?_
    refine aw_lrem dX6_draw_68 (by omega) ?_
    refine aw_lstore (L2 := [_, _, _, _, _, _, _, _]) dX6_draw_69 (by decide) rfl rfl ?_
    refine aw_aload_n dX6_draw_71 rfl ?_
    refine aw_getR dX6_draw_72 flX6_7 rfl rfl ?_
    refine aw_bipush dX6_draw_75 (by decide) ?_
    refine aw_bipush dX6_draw_77 (by decide) ?_
    refine aw_iload_n dX6_draw_79 rfl ?_
    refine aw_imul dX6_draw_80 ?_
    refine aw_iadd dX6_draw_81 ?_
    refine aw_iload dX6_draw_82 rfl ?_
    refine aw_iadd dX6_draw_84 ?_
    refine aw_lload dX6_draw_85 rfl ?_
    refine aw_ldc2 dX6_draw_87 kcX6_106 ?_
    refine aw_ldiv dX6_draw_90 (by omega) ?_
    refine aw_iload_n dX6_draw_91 rfl ?_
    refine aw_i2l dX6_draw_92 (by omega) ?_
    refine aw_lrem dX6_draw_93 (by omega) ?_
    refine aw_l2i dX6_draw_94 ?_
    rw [ed]
    refine aw_iast dX6_draw_95 rfl (by omega) ?_
    refine aw_aload_n dX6_draw_96 rfl ?_
    refine aw_getR dX6_draw_97 flX6_7 rfl rfl ?_
    refine aw_iload dX6_draw_100 rfl ?_
    refine aw_lload dX6_draw_102 rfl ?_
    refine aw_ldc2 dX6_draw_104 kcX6_108 ?_
    refine aw_ldiv dX6_draw_107 (by omega) ?_
    refine aw_ldc2 dX6_draw_108 kcX6_110 ?_
    refine aw_lrem dX6_draw_111 (by omega) ?_
    refine aw_l2i dX6_draw_112 ?_
    rw [ep]
    refine aw_iast dX6_draw_113 rfl (by omega) ?_
    refine aw_iload dX6_draw_114 rfl ?_
    refine aw_aload_n dX6_draw_116 rfl ?_
    refine aw_getR dX6_draw_117 flX6_7 rfl rfl ?_
    refine aw_iload dX6_draw_120 rfl ?_
    refine aw_iald dX6_draw_122 rfl (by omega) ?_
    rw [sp_up_s]
    refine aw_iadd dX6_draw_123 ?_
    refine aw_istore (L2 := [_, _, _, _, _, _, _, _]) dX6_draw_124 (by decide) rfl rfl ?_
    refine aw_iinc (L2 := [_, _, _, _, _, _, _, _]) dX6_draw_126 rfl (by decide) rfl rfl ?_
    refine aw_goto (tg := 48) dX6_draw_129 (by decide) ?_
    refine ih (a + 1) _ _ _ (by omega) (by omega) hxs.symm ?_ ((hf.up (by decide)).up (by decide)) ?_ ?_ (fun j hj => ?_)
    · rw [eall, sI_s _ h0]
    · refine ((hp.out (by omega)).up (i := a) (by omega)).c (fun t h1 h2 => ?_)
      by_cases ht : t = a
      · rw [if_pos ht, if_pos (by omega), ht]
      · rw [if_neg ht]
        by_cases h3 : t < a
        · rw [if_pos h3, if_pos (by omega)]
        · rw [if_neg h3, if_neg (by omega)]
    · exact ((hd.up (i := l * 24 + a) (by omega)).c (fun t _ _ => ly_s h0 t)).out (by omega)
    · rw [sp_up_i _ _ _ _ (by omega), sp_up_i _ _ _ _ (by omega)]
      exact ho j hj
theorem rX6_draw (d : Nat) {B : Int} {Z : zZ} {l sd n : Int} {g : sp_G} {Q : sp_P} (hR : mRep g Z) (hV : zV B Z) (hr : ((-2147483648 ≤ l ∧ l < 2147483648)) ∧ ((-2147483648 ≤ sd ∧ sd < 2147483648)) ∧ ((-2147483648 ≤ n ∧ n < 2147483648))) (h1 : ((0 ≤ l ∧ l ≤ 3) ∧ (0 ≤ sd ∧ sd ≤ 999999) ∧ (1 ≤ n ∧ n ≤ 6)) → ∀ g2 : sp_G, mRep g2 (zw (dr_p sd, ly l (dr_d sd n) (zd (zt Z)) 24, (zm (zt Z)), (zo (zt Z))) (zk Z)) → fCo g g2 → Q (some (v_i (sI (dr_p sd) 24))) g2) (h2 : ¬ (((0 ≤ l ∧ l ≤ 3) ∧ (0 ≤ sd ∧ sd ≤ 999999) ∧ (1 ≤ n ∧ n ≤ 6))) → ∀ g2 : sp_G, mRep g2 (zr 3 Z) → fCo g g2 → Q (some (v_i (-2))) g2) : sp_Met (d + 8) mX6_draw [v_r 52, v_i l, v_i sd, v_i n] g Q := by
  refine sp_of (L := [_, _, _, _, _, _, _, _]) (by decide) (Nat.le_of_ble_eq_true rfl) rfl rfl ?_
  refine aw_iload_n dX6_draw_0 rfl ?_
  refine aw_S1 dX6_draw_1 okX6_isLayer lkX6_65 rfl ?_
  refine tX6_isLayer _ (by omega) ?_
  refine aw_ifeq_b (tg := 27) dX6_draw_4 (by decide) (fun h4 => ?_) (fun h4 => ?_)
  · refine aw_aload_n dX6_draw_27 rfl ?_
    refine aw_bipush dX6_draw_28 (by decide) ?_
    refine aw_V1 dX6_draw_30 okX6_refuses lkX6_68 rfl rfl rfl ?_
    refine zX6_ref0 _ hR hV (fun g2 r2 c2 => ?_)
    refine aw_iret dX6_draw_33 rfl ?_
    exact h2 (by omega) g2 r2 c2
  · refine aw_iload_n dX6_draw_7 rfl ?_
    refine aw_iconst dX6_draw_8 ?_
    refine aw_ldc dX6_draw_9 kcX6_99 ?_
    refine aw_S3 dX6_draw_11 okX6_in lkX6_53 rfl ?_
    refine tX6_in _ (by omega) ?_
    refine aw_ifeq_b (tg := 27) dX6_draw_14 (by decide) (fun h14 => ?_) (fun h14 => ?_)
    · refine aw_aload_n dX6_draw_27 rfl ?_
      refine aw_bipush dX6_draw_28 (by decide) ?_
      refine aw_V1 dX6_draw_30 okX6_refuses lkX6_68 rfl rfl rfl ?_
      refine zX6_ref0 _ hR hV (fun g2 r2 c2 => ?_)
      refine aw_iret dX6_draw_33 rfl ?_
      exact h2 (by omega) g2 r2 c2
    · refine aw_iload_n dX6_draw_17 rfl ?_
      refine aw_iconst dX6_draw_18 ?_
      refine aw_bipush dX6_draw_19 (by decide) ?_
      refine aw_S3 dX6_draw_21 okX6_in lkX6_53 rfl ?_
      refine tX6_in _ (by omega) ?_
      refine aw_ifne_b (tg := 34) dX6_draw_24 (by decide) (fun h24 => ?_) (fun h24 => ?_)
      · refine aw_aload_n dX6_draw_34 rfl ?_
        refine aw_V0 dX6_draw_35 okX6_keeps lkX6_72 rfl rfl rfl ?_
        refine tX6_keepsZ _ hR hV (fun g2 r2 c2 => ?_)
        have v2 := zk_V hV
        refine aw_iconst dX6_draw_38 ?_
        refine aw_istore (L2 := [_, _, _, _, _, _, _, _]) dX6_draw_39 (by decide) rfl rfl ?_
        refine aw_iload_n dX6_draw_41 rfl ?_
        refine aw_i2l dX6_draw_42 (by omega) ?_
        refine aw_lstore (L2 := [_, _, _, _, _, _, _, _]) dX6_draw_43 (by decide) rfl rfl ?_
        refine aw_iconst dX6_draw_45 ?_
        refine aw_istore (L2 := [_, _, _, _, _, _, _, _]) dX6_draw_46 (by decide) rfl rfl ?_
        refine lX6_draw _ r2 (by omega) (by omega) (by omega) (fun g3 r3 c3 => h1 (by omega) g3 r3 (c2.tr c3)) 24 0 _ _ g2 (by omega) (by omega) rfl rfl sp_fr.rf (r2.pe.c (fun i h1 h2 => (if_neg (by omega)).symm)) ?_ (fun j hj => rfl)
        rw [ly_0]
        exact r2.di
      · refine aw_aload_n dX6_draw_27 rfl ?_
        refine aw_bipush dX6_draw_28 (by decide) ?_
        refine aw_V1 dX6_draw_30 okX6_refuses lkX6_68 rfl rfl rfl ?_
        refine zX6_ref0 _ hR hV (fun g2 r2 c2 => ?_)
        refine aw_iret dX6_draw_33 rfl ?_
        exact h2 (by omega) g2 r2 c2
theorem lX6_fol1 (d : Nat) {di : Int → Int} {l way k : Int} {g0 : sp_G} {Q : sp_P} (hl : 0 ≤ l ∧ l ≤ 3) (hw : 0 ≤ way ∧ way ≤ 3) (hk : 0 ≤ k ∧ k ≤ 3) (hv : ∀ i, 0 ≤ i → i < 96 → 0 ≤ di i ∧ di i ≤ 5) (hdi : rH g0 53 24 96 di)
    (hc : ∀ (g : sp_G) (x5 x6 : Option sp_V), sp_nl x5 = true → sp_fr [63] g0 g → rH g 63 0 24 (fw di l way k) → sp_AW mX6_follows (d + 1) 151 [some (v_r 52), some (v_i l), some (v_i way), some (v_i k), some (v_i 24), x5, x6] [] g Q) :
    ∀ (n : Nat) (a : Int) (x5 x6 : Option sp_V) (g : sp_G), 0 ≤ a → a + n = 24 → sp_nl x5 = true → sp_fr [63] g0 g → rH g 63 0 a (fw di l way k) → sp_AW mX6_follows (d + 1) 37 [some (v_r 52), some (v_i l), some (v_i way), some (v_i k), some (v_i a), x5, x6] [] g Q := by
  intro n
  induction n with
  | zero =>
    intro a x5 x6 g h0 hn hx5 hf hr
    have ea : a = 24 := by omega
    subst ea
    refine aw_iload dX6_follows_37 rfl ?_
    refine aw_bipush dX6_follows_39 (by decide) ?_
    refine aw_icmp_ge (tg := 151) dX6_follows_41 (by decide) (by omega) (fun h41 => ?_) (fun h41 => absurd h41 (by omega))
    exact hc g _ _ hx5 hf hr
  | succ n ih =>
    intro a x5 x6 g h0 hn hx5 hf hr
    have h5 := hdi.fr hf (by decide)
    have hv1 := hv (l * 24 + a) (by omega) (by omega)
    have hv2 := hv (k * 24 + a) (by omega) (by omega)
    have fin : ∀ (x : Int) (y5 y6 : Option sp_V), sp_nl y5 = true → x = fw di l way k a → sp_AW mX6_follows (d + 1) 37 [some (v_r 52), some (v_i l), some (v_i way), some (v_i k), some (v_i (a + 1)), y5, y6] [] (sp_up g 63 a x) Q := by
      intro x y5 y6 hy5 ex
      refine ih (a + 1) _ _ _ (by omega) (by omega) hy5 (hf.up (by decide)) (fun i j i0 i1 e => ?_)
      by_cases hi : i = a
      · rw [show j = a by omega, sp_up_s, hi, ex]
      · rw [sp_up_i _ _ _ _ (by omega)]
        exact hr i j i0 (by omega) e
    refine aw_iload dX6_follows_37 rfl ?_
    refine aw_bipush dX6_follows_39 (by decide) ?_
    refine aw_icmp_ge (tg := 151) dX6_follows_41 (by decide) (by omega) (fun h41 => absurd h41 (by omega)) (fun h41 => ?_)
    refine aw_aload_n dX6_follows_44 rfl ?_
    refine aw_iload_n dX6_follows_45 rfl ?_
    refine aw_iload dX6_follows_46 rfl ?_
    refine aw_V2 dX6_follows_48 okX6_district lkX6_79 rfl rfl rfl ?_
    refine tX6_district _ h5 (by omega) ?_
    refine aw_istore (L2 := [_, _, _, _, _, _, _]) dX6_follows_51 (by decide) rfl rfl ?_
    refine aw_aload_n dX6_follows_53 rfl ?_
    refine aw_iload_n dX6_follows_54 rfl ?_
    refine aw_iload dX6_follows_55 rfl ?_
    refine aw_V2 dX6_follows_57 okX6_district lkX6_79 rfl rfl rfl ?_
    refine tX6_district _ h5 (by omega) ?_
    refine aw_istore (L2 := [_, _, _, _, _, _, _]) dX6_follows_60 (by decide) rfl rfl ?_
    refine aw_aload_n dX6_follows_62 rfl ?_
    refine aw_getR dX6_follows_63 flX6_41 rfl rfl ?_
    refine aw_iload dX6_follows_66 rfl ?_
    refine aw_iload_n dX6_follows_68 rfl ?_
    refine aw_if_ne (tg := 77) dX6_follows_69 (by decide) (by omega) (fun h69 => ?_) (fun h69 => ?_)
    · refine aw_iload_n dX6_follows_77 rfl ?_
      refine aw_iconst dX6_follows_78 ?_
      refine aw_icmp_ne (tg := 103) dX6_follows_79 (by decide) (by omega) (fun h79 => ?_) (fun h79 => ?_)
      · refine aw_iload_n dX6_follows_103 rfl ?_
        refine aw_iconst dX6_follows_104 ?_
        refine aw_icmp_ne (tg := 130) dX6_follows_105 (by decide) (by omega) (fun h105 => ?_) (fun h105 => ?_)
        · refine aw_iload dX6_follows_130 rfl ?_
          refine aw_iload dX6_follows_132 rfl ?_
          refine aw_icmp_le (tg := 142) dX6_follows_134 (by decide) (by omega) (fun h134 => ?_) (fun h134 => ?_)
          · refine aw_iload dX6_follows_142 rfl ?_
            refine aw_iast dX6_follows_144 rfl (by omega) ?_
            refine aw_iinc (L2 := [_, _, _, _, _, _, _]) dX6_follows_145 rfl (by decide) rfl rfl ?_
            refine aw_goto (tg := 37) dX6_follows_148 (by decide) ?_
            refine fin _ _ _ rfl ?_
            unfold fw
            rw [if_neg (by omega), if_neg (by omega), if_neg (by omega)]
            split <;> omega
          · refine aw_iload dX6_follows_137 rfl ?_
            refine aw_goto (tg := 144) dX6_follows_139 (by decide) ?_
            refine aw_iast dX6_follows_144 rfl (by omega) ?_
            refine aw_iinc (L2 := [_, _, _, _, _, _, _]) dX6_follows_145 rfl (by decide) rfl rfl ?_
            refine aw_goto (tg := 37) dX6_follows_148 (by decide) ?_
            refine fin _ _ _ rfl ?_
            unfold fw
            rw [if_neg (by omega), if_neg (by omega), if_neg (by omega), if_neg (by omega)]
        · refine aw_aload_n dX6_follows_108 rfl ?_
          refine aw_iload_n dX6_follows_109 rfl ?_
          refine aw_bipush dX6_follows_110 (by decide) ?_
          refine aw_iload dX6_follows_112 rfl ?_
          refine aw_iconst dX6_follows_114 ?_
          refine aw_idiv dX6_follows_115 (by omega) ?_
          refine aw_iconst dX6_follows_116 ?_
          refine aw_imul dX6_follows_117 ?_
          refine aw_isub dX6_follows_118 ?_
          refine aw_iload dX6_follows_119 rfl ?_
          refine aw_iconst dX6_follows_121 ?_
          refine aw_irem dX6_follows_122 (by omega) ?_
          refine aw_iadd dX6_follows_123 ?_
          refine aw_V2 dX6_follows_124 okX6_district lkX6_79 rfl rfl rfl ?_
          refine tX6_district _ h5 (by omega) ?_
          refine aw_goto (tg := 144) dX6_follows_127 (by decide) ?_
          refine aw_iast dX6_follows_144 rfl (by omega) ?_
          refine aw_iinc (L2 := [_, _, _, _, _, _, _]) dX6_follows_145 rfl (by decide) rfl rfl ?_
          refine aw_goto (tg := 37) dX6_follows_148 (by decide) ?_
          refine fin _ _ _ rfl ?_
          unfold fw
          rw [if_neg (by omega), if_neg (by omega), if_pos (by omega)]
      · refine aw_aload_n dX6_follows_82 rfl ?_
        refine aw_iload_n dX6_follows_83 rfl ?_
        refine aw_iload dX6_follows_84 rfl ?_
        refine aw_iconst dX6_follows_86 ?_
        refine aw_idiv dX6_follows_87 (by omega) ?_
        refine aw_iconst dX6_follows_88 ?_
        refine aw_imul dX6_follows_89 ?_
        refine aw_iconst dX6_follows_90 ?_
        refine aw_iadd dX6_follows_91 ?_
        refine aw_iload dX6_follows_92 rfl ?_
        refine aw_iconst dX6_follows_94 ?_
        refine aw_irem dX6_follows_95 (by omega) ?_
        refine aw_isub dX6_follows_96 ?_
        refine aw_V2 dX6_follows_97 okX6_district lkX6_79 rfl rfl rfl ?_
        refine tX6_district _ h5 (by omega) ?_
        refine aw_goto (tg := 144) dX6_follows_100 (by decide) ?_
        refine aw_iast dX6_follows_144 rfl (by omega) ?_
        refine aw_iinc (L2 := [_, _, _, _, _, _, _]) dX6_follows_145 rfl (by decide) rfl rfl ?_
        refine aw_goto (tg := 37) dX6_follows_148 (by decide) ?_
        refine fin _ _ _ rfl ?_
        unfold fw
        rw [if_neg (by omega), if_pos (by omega)]
    · refine aw_iload dX6_follows_72 rfl ?_
      refine aw_goto (tg := 144) dX6_follows_74 (by decide) ?_
      refine aw_iast dX6_follows_144 rfl (by omega) ?_
      refine aw_iinc (L2 := [_, _, _, _, _, _, _]) dX6_follows_145 rfl (by decide) rfl rfl ?_
      refine aw_goto (tg := 37) dX6_follows_148 (by decide) ?_
      refine fin _ _ _ rfl ?_
      unfold fw
      rw [if_pos (by omega)]
theorem lX6_fol2 (d : Nat) {B : Int} {Z : zZ} {l way k : Int} {g0 : sp_G} {Q : sp_P} (hR : mRep g0 Z) (hV : zV B Z) (hl : 0 ≤ l ∧ l ≤ 3) (hk : 0 ≤ k ∧ k ≤ 3) (hmv : rH g0 63 0 24 (fw (zd (zt Z)) l way k))
    (hQ : ∀ g : sp_G, mRep g (zw ((zp (zt Z)), ly l (fw (zd (zt Z)) l way k) (zd (zt Z)) 24, (zm (zt Z)), (zo (zt Z))) Z) → fCo g0 g → Q (some (v_i (sI (fw_c (zd (zt Z)) l way k) 24))) g) :
    ∀ (n : Nat) (a m : Int) (x6 : Option sp_V) (g : sp_G), 0 ≤ a → a + n = 24 → m = sI (fw_c (zd (zt Z)) l way k) a → sp_fr [53] g0 g → rH g 53 24 96 (ly l (fw (zd (zt Z)) l way k) (zd (zt Z)) a) → (∀ j, (j < 24 ∨ 120 ≤ j) → g 53 j = g0 53 j) → sp_AW mX6_follows (d + 1) 157 [some (v_r 52), some (v_i l), some (v_i way), some (v_i k), some (v_i m), some (v_i a), x6] [] g Q := by
  intro n
  induction n with
  | zero =>
    intro a m x6 g h0 hn em hf hd ho
    have ea : a = 24 := by omega
    subst ea
    refine aw_iload dX6_follows_157 rfl ?_
    refine aw_bipush dX6_follows_159 (by decide) ?_
    refine aw_icmp_ge (tg := 219) dX6_follows_161 (by decide) (by omega) (fun h161 => ?_) (fun h161 => absurd h161 (by omega))
    refine aw_iload dX6_follows_219 rfl ?_
    refine aw_iret dX6_follows_221 rfl ?_
    rw [em]
    refine hQ g (hR.town (hf.wk (by decide)) (flt_of (T := ((zp (zt Z)), ly l (fw (zd (zt Z)) l way k) (zd (zt Z)) 24, (zm (zt Z)), (zo (zt Z)))) (fun i j i0 i1 q => ?_) hd (fun i j i0 i1 q => ?_) ?_)) (fCo.fr hf (by decide))
    · rw [ho j (by omega)]; exact hR.pe i j i0 i1 q
    · rw [ho j (by omega)]; exact hR.na i j i0 i1 q
    · rw [ho _ (by omega)]; exact hR.on
  | succ n ih =>
    intro a m x6 g h0 hn em hf hd ho
    have hdv := hV.1.2.1 (l * 24 + a) (by omega) (by omega)
    have hfb := fw_b (way := way) (a := a) hl hk (by omega) hV.1.2.1
    have e9 : g 63 a = fw (zd (zt Z)) l way k a := by rw [hf 63 (by decide)]; exact hmv a a h0 (by omega) (by omega)
    have fin : ∀ (x : Int) (y : Option sp_V), x = fw_c (zd (zt Z)) l way k a → sp_AW mX6_follows (d + 1) 157 [some (v_r 52), some (v_i l), some (v_i way), some (v_i k), some (v_i (m + x)), some (v_i (a + 1)), y] [] (sp_up g 53 (24 + 24 * l + a) (fw (zd (zt Z)) l way k a)) Q := by
      intro x y ex
      refine ih (a + 1) _ _ _ (by omega) (by omega) (by rw [sI_s _ h0, em, ex]) (hf.up (by decide)) ?_ (fun j hj => ?_)
      · exact (hd.up (i := l * 24 + a) (by omega)).c (fun t _ _ => ly_s h0 t)
      · rw [sp_up_i _ _ _ _ (by omega)]
        exact ho j hj
    refine aw_iload dX6_follows_157 rfl ?_
    refine aw_bipush dX6_follows_159 (by decide) ?_
    refine aw_icmp_ge (tg := 219) dX6_follows_161 (by decide) (by omega) (fun h161 => absurd h161 (by omega)) (fun h161 => ?_)
    refine aw_iload dX6_follows_164 rfl ?_
    refine aw_aload_n dX6_follows_166 rfl ?_
    refine aw_iload_n dX6_follows_167 rfl ?_
    refine aw_iload dX6_follows_168 rfl ?_
    refine aw_V2 dX6_follows_170 okX6_district lkX6_79 rfl rfl rfl ?_
    refine tX6_district _ hd (by omega) ?_
    rw [ly_at (by omega)]
    refine aw_aload_n dX6_follows_173 rfl ?_
    refine aw_getR dX6_follows_174 flX6_41 rfl rfl ?_
    refine aw_iload dX6_follows_177 rfl ?_
    refine aw_iald dX6_follows_179 rfl (by omega) ?_
    rw [e9]
    refine aw_icmp_ne (tg := 187) dX6_follows_180 (by decide) (by omega) (fun h180 => ?_) (fun h180 => ?_)
    · refine aw_iconst dX6_follows_187 ?_
      refine aw_iadd dX6_follows_188 ?_
      refine aw_istore (L2 := [_, _, _, _, _, _, _]) dX6_follows_189 (by decide) rfl rfl ?_
      refine aw_aload_n dX6_follows_191 rfl ?_
      refine aw_getR dX6_follows_192 flX6_7 rfl rfl ?_
      refine aw_bipush dX6_follows_195 (by decide) ?_
      refine aw_bipush dX6_follows_197 (by decide) ?_
      refine aw_iload_n dX6_follows_199 rfl ?_
      refine aw_imul dX6_follows_200 ?_
      refine aw_iadd dX6_follows_201 ?_
      refine aw_iload dX6_follows_202 rfl ?_
      refine aw_iadd dX6_follows_204 ?_
      refine aw_aload_n dX6_follows_205 rfl ?_
      refine aw_getR dX6_follows_206 flX6_41 rfl rfl ?_
      refine aw_iload dX6_follows_209 rfl ?_
      refine aw_iald dX6_follows_211 rfl (by omega) ?_
      rw [e9]
      refine aw_iast dX6_follows_212 rfl (by omega) ?_
      refine aw_iinc (L2 := [_, _, _, _, _, _, _]) dX6_follows_213 rfl (by decide) rfl rfl ?_
      refine aw_goto (tg := 157) dX6_follows_216 (by decide) ?_
      refine fin _ _ ?_
      unfold fw_c
      rw [if_neg (by omega)]
    · refine aw_iconst dX6_follows_183 ?_
      refine aw_goto (tg := 188) dX6_follows_184 (by decide) ?_
      refine aw_iadd dX6_follows_188 ?_
      refine aw_istore (L2 := [_, _, _, _, _, _, _]) dX6_follows_189 (by decide) rfl rfl ?_
      refine aw_aload_n dX6_follows_191 rfl ?_
      refine aw_getR dX6_follows_192 flX6_7 rfl rfl ?_
      refine aw_bipush dX6_follows_195 (by decide) ?_
      refine aw_bipush dX6_follows_197 (by decide) ?_
      refine aw_iload_n dX6_follows_199 rfl ?_
      refine aw_imul dX6_follows_200 ?_
      refine aw_iadd dX6_follows_201 ?_
      refine aw_iload dX6_follows_202 rfl ?_
      refine aw_iadd dX6_follows_204 ?_
      refine aw_aload_n dX6_follows_205 rfl ?_
      refine aw_getR dX6_follows_206 flX6_41 rfl rfl ?_
      refine aw_iload dX6_follows_209 rfl ?_
      refine aw_iald dX6_follows_211 rfl (by omega) ?_
      rw [e9]
      refine aw_iast dX6_follows_212 rfl (by omega) ?_
      refine aw_iinc (L2 := [_, _, _, _, _, _, _]) dX6_follows_213 rfl (by decide) rfl rfl ?_
      refine aw_goto (tg := 157) dX6_follows_216 (by decide) ?_
      refine fin _ _ ?_
      unfold fw_c
      rw [if_pos (by omega)]
theorem rX6_follows (d : Nat) {B : Int} {Z : zZ} {l way k : Int} {g : sp_G} {Q : sp_P} (hR : mRep g Z) (hV : zV B Z) (hr : ((-2147483648 ≤ l ∧ l < 2147483648)) ∧ ((-2147483648 ≤ way ∧ way < 2147483648)) ∧ ((-2147483648 ≤ k ∧ k < 2147483648))) (h1 : ((0 ≤ l ∧ l ≤ 3) ∧ (0 ≤ way ∧ way ≤ 3) ∧ (0 ≤ k ∧ k ≤ 3)) → ∀ g2 : sp_G, mRep g2 (zw ((zp (zt Z)), ly l (fw (zd (zt Z)) l way k) (zd (zt Z)) 24, (zm (zt Z)), (zo (zt Z))) (zk Z)) → fCo g g2 → Q (some (v_i (sI (fw_c (zd (zt Z)) l way k) 24))) g2) (h2 : ¬ (((0 ≤ l ∧ l ≤ 3) ∧ (0 ≤ way ∧ way ≤ 3) ∧ (0 ≤ k ∧ k ≤ 3))) → ∀ g2 : sp_G, mRep g2 (zr 3 Z) → fCo g g2 → Q (some (v_i (-2))) g2) : sp_Met (d + 8) mX6_follows [v_r 52, v_i l, v_i way, v_i k] g Q := by
  refine sp_of (L := [_, _, _, _, _, _, _]) (by decide) (Nat.le_of_ble_eq_true rfl) rfl rfl ?_
  refine aw_iload_n dX6_follows_0 rfl ?_
  refine aw_S1 dX6_follows_1 okX6_isLayer lkX6_65 rfl ?_
  refine tX6_isLayer _ (by omega) ?_
  refine aw_ifeq_b (tg := 23) dX6_follows_4 (by decide) (fun h4 => ?_) (fun h4 => ?_)
  · refine aw_aload_n dX6_follows_23 rfl ?_
    refine aw_bipush dX6_follows_24 (by decide) ?_
    refine aw_V1 dX6_follows_26 okX6_refuses lkX6_68 rfl rfl rfl ?_
    refine zX6_ref0 _ hR hV (fun g2 r2 c2 => ?_)
    refine aw_iret dX6_follows_29 rfl ?_
    exact h2 (by omega) g2 r2 c2
  · refine aw_iload_n dX6_follows_7 rfl ?_
    refine aw_iconst dX6_follows_8 ?_
    refine aw_iconst dX6_follows_9 ?_
    refine aw_S3 dX6_follows_10 okX6_in lkX6_53 rfl ?_
    refine tX6_in _ (by omega) ?_
    refine aw_ifeq_b (tg := 23) dX6_follows_13 (by decide) (fun h13 => ?_) (fun h13 => ?_)
    · refine aw_aload_n dX6_follows_23 rfl ?_
      refine aw_bipush dX6_follows_24 (by decide) ?_
      refine aw_V1 dX6_follows_26 okX6_refuses lkX6_68 rfl rfl rfl ?_
      refine zX6_ref0 _ hR hV (fun g2 r2 c2 => ?_)
      refine aw_iret dX6_follows_29 rfl ?_
      exact h2 (by omega) g2 r2 c2
    · refine aw_iload_n dX6_follows_16 rfl ?_
      refine aw_S1 dX6_follows_17 okX6_isLayer lkX6_65 rfl ?_
      refine tX6_isLayer _ (by omega) ?_
      refine aw_ifne_b (tg := 30) dX6_follows_20 (by decide) (fun h20 => ?_) (fun h20 => ?_)
      · refine aw_aload_n dX6_follows_30 rfl ?_
        refine aw_V0 dX6_follows_31 okX6_keeps lkX6_72 rfl rfl rfl ?_
        refine tX6_keepsZ _ hR hV (fun g2 r2 c2 => ?_)
        have v2 := zk_V hV
        refine aw_iconst dX6_follows_34 ?_
        refine aw_istore (L2 := [_, _, _, _, _, _, _]) dX6_follows_35 (by decide) rfl rfl ?_
        refine lX6_fol1 _ (by omega) (by omega) (by omega) v2.1.2.1 r2.di (fun g3 x5 x6 hx5 f3 m3 => ?_) 24 0 _ _ g2 (by omega) (by omega) rfl sp_fr.rf (fun i j i0 i1 => by omega)
        have r3 : mRep g3 (zk Z) := r2.sc ⟨f3.wk (by decide), f3 52 (by decide) 2, f3 52 (by decide) 6⟩
        refine aw_iconst dX6_follows_151 ?_
        refine aw_istore (L2 := [_, _, _, _, _, _, _]) dX6_follows_152 (by decide) rfl rfl ?_
        refine aw_iconst dX6_follows_154 ?_
        refine aw_istore (L2 := [_, _, _, _, _, _, _]) dX6_follows_155 (by decide) rfl rfl ?_
        refine lX6_fol2 _ r3 v2 (by omega) (by omega) m3 (fun g4 r4 c4 => h1 (by omega) g4 r4 ((c2.tr (fCo.fr f3 (by decide))).tr c4)) 24 0 _ _ g3 (by omega) (by omega) rfl sp_fr.rf ?_ (fun j hj => rfl)
        rw [ly_0]
        exact r3.di
      · refine aw_aload_n dX6_follows_23 rfl ?_
        refine aw_bipush dX6_follows_24 (by decide) ?_
        refine aw_V1 dX6_follows_26 okX6_refuses lkX6_68 rfl rfl rfl ?_
        refine zX6_ref0 _ hR hV (fun g2 r2 c2 => ?_)
        refine aw_iret dX6_follows_29 rfl ?_
        exact h2 (by omega) g2 r2 c2
theorem lX6_undo (d : Nat) {c : Int} {f : Int → Int} {g0 : sp_G} {Q : sp_P} (hc : 0 ≤ c ∧ c ≤ 7) (ec : g0 52 2 = c) (hs : rH g0 54 (145 * c) 145 f)
    (hQ : ∀ g : sp_G, sp_fr [53] g0 g → rH g 53 0 145 f → Q (some (v_i c)) g) :
    ∀ (n : Nat) (k : Int) (g : sp_G), 0 ≤ k → k + n = 145 → sp_fr [53] g0 g → rH g 53 0 k f → sp_AW mX6_undo d 26 [some (v_r 52), some (v_i k)] [] g Q := by
  intro n
  induction n with
  | zero =>
    intro k g h0 hn hf hr
    have ek : k = 145 := by omega
    subst ek
    have e2 : g 52 2 = c := by rw [hf 52 (by decide)]; exact ec
    refine aw_iload_n dX6_undo_26 rfl ?_
    refine aw_sipush dX6_undo_27 (by decide) ?_
    refine aw_icmp_ge (tg := 60) dX6_undo_30 (by decide) (by omega) (fun h30 => ?_) (fun h30 => absurd h30 (by omega))
    refine aw_aload_n dX6_undo_60 rfl ?_
    refine aw_getI (kz := 2) dX6_undo_61 flX6_57 rfl rfl rfl ?_
    rw [e2]
    refine aw_iret dX6_undo_64 rfl ?_
    exact hQ g hf hr
  | succ n ih =>
    intro k g h0 hn hf hr
    have e2 : g 52 2 = c := by rw [hf 52 (by decide)]; exact ec
    have e3 : g 54 (145 * c + k) = f k := by rw [hf 54 (by decide)]; exact hs k _ h0 (by omega) (by omega)
    refine aw_iload_n dX6_undo_26 rfl ?_
    refine aw_sipush dX6_undo_27 (by decide) ?_
    refine aw_icmp_ge (tg := 60) dX6_undo_30 (by decide) (by omega) (fun h30 => absurd h30 (by omega)) (fun h30 => ?_)
    refine aw_aload_n dX6_undo_33 rfl ?_
    refine aw_getR dX6_undo_34 flX6_7 rfl rfl ?_
    refine aw_iload_n dX6_undo_37 rfl ?_
    refine aw_aload_n dX6_undo_38 rfl ?_
    refine aw_getR dX6_undo_39 flX6_13 rfl rfl ?_
    refine aw_sipush dX6_undo_42 (by decide) ?_
    refine aw_aload_n dX6_undo_45 rfl ?_
    refine aw_getI (kz := 2) dX6_undo_46 flX6_57 rfl rfl rfl ?_
    rw [e2]
    refine aw_imul dX6_undo_49 ?_
    refine aw_iload_n dX6_undo_50 rfl ?_
    refine aw_iadd dX6_undo_51 ?_
    refine aw_iald dX6_undo_52 rfl (by omega) ?_
    rw [e3]
    refine aw_iast dX6_undo_53 rfl (by omega) ?_
    refine aw_iinc (L2 := [_, _]) dX6_undo_54 rfl (by decide) rfl rfl ?_
    refine aw_goto (tg := 26) dX6_undo_57 (by decide) ?_
    refine ih (k + 1) _ (by omega) (by omega) (hf.up (by decide)) (fun i j i0 i1 e => ?_)
    by_cases hi : i = k
    · rw [show j = k by omega, sp_up_s, hi]
    · rw [sp_up_i _ _ _ _ (by omega)]
      exact hr i j i0 (by omega) e
theorem rX6_undo (d : Nat) {B : Int} {Z : zZ} {g : sp_G} {Q : sp_P} (hR : mRep g Z) (hV : zV B Z) (h1 : 0 < zc Z → ∀ g2 : sp_G, mRep g2 (zh Z (zc Z - 1), zh Z, zc Z - 1, zn Z, zx Z, zl Z) → fCo g g2 → Q (some (v_i (zc Z - 1))) g2) (h2 : zc Z = 0 → ∀ g2 : sp_G, mRep g2 (zr 4 Z) → fCo g g2 → Q (some (v_i (-3))) g2) : sp_Met (d + 8) mX6_undo [v_r 52] g Q := by
  refine sp_of (L := [_, _]) (by decide) (Nat.le_of_ble_eq_true rfl) rfl rfl ?_
  have hc := hV.2.1
  refine aw_aload_n dX6_undo_0 rfl ?_
  refine aw_getI (kz := 2) dX6_undo_1 flX6_57 rfl rfl rfl ?_
  rw [hR.2.1]
  refine aw_if_ne (tg := 14) dX6_undo_4 (by decide) (by omega) (fun b4 => ?_) (fun b4 => ?_)
  · refine aw_aload_n dX6_undo_14 rfl ?_
    refine aw_dup dX6_undo_15 rfl ?_
    refine aw_getI (kz := 2) dX6_undo_16 flX6_57 rfl rfl rfl ?_
    rw [hR.2.1]
    refine aw_iconst dX6_undo_19 ?_
    refine aw_isub dX6_undo_20 ?_
    refine aw_putI (kz := 2) dX6_undo_21 flX6_57 fi_6_2 rfl rfl rfl  ?_
    refine aw_iconst dX6_undo_24 ?_
    refine aw_istore_n (L2 := [_, _]) dX6_undo_25 (by decide) rfl rfl ?_
    obtain ⟨k1, k2, k3, k4, k5, k6, k7, k8⟩ := hR
    refine lX6_undo _ (c := zc Z - 1) (f := flt (zh Z (zc Z - 1))) (by omega) (sp_up_s _ _ _ _) ((k3 (zc Z - 1) (by omega) (by omega)).ne (by decide)) (fun g2 f2 m2 => ?_) 145 0 _ (by omega) (by omega) sp_fr.rf (fun i j i0 i1 => by omega)
    have hf : sp_fr [52, 53] g g2 := (sp_fr.rf.up (o := 52) (by decide)).tr f2 (by decide)
    have e : ∀ p j, p ≠ 52 → p ≠ 53 → g2 p j = g p j := fun p j hp hq => hf p (by simp; omega) j
    refine h1 (by omega) g2 ⟨m2, by rw [f2 52 (by decide), sp_up_s]; rfl, fun j j0 j1 => ?_, by rw [e _ _ (by decide) (by decide), e _ _ (by decide) (by decide), e _ _ (by decide) (by decide)]; exact k4, by rw [e _ _ (by decide) (by decide), e _ _ (by decide) (by decide), e _ _ (by decide) (by decide)]; exact k5, by rw [f2 52 (by decide), sp_up_i _ _ _ _ (by decide)]; exact k6, k7.fr hf (by decide), k8.fr hf (by decide)⟩ (fCo.fr hf (by decide))
    have j1 : j < zc Z - 1 := j1
    exact (k3 j j0 (by omega)).fr hf (by decide)
  · refine aw_aload_n dX6_undo_7 rfl ?_
    refine aw_bipush dX6_undo_8 (by decide) ?_
    refine aw_V1 dX6_undo_10 okX6_refuses lkX6_68 rfl rfl rfl ?_
    refine zX6_ref1 _ hR hV (fun g2 r2 c2 => ?_)
    refine aw_iret dX6_undo_13 rfl ?_
    exact h2 (by omega) g2 r2 c2
theorem rX6_type (d : Nat) {B : Int} {Z : zZ} {c : Int} {g : sp_G} {Q : sp_P} (hR : mRep g Z) (hV : zV B Z) (hr : (-2147483648 ≤ c ∧ c < 2147483648)) (h1 : (0 ≤ c ∧ c ≤ 127) → zl Z < 120 → ∀ g2 : sp_G, mRep g2 (zty c Z) → fCo g g2 → Q (some (v_i (zl Z + 1))) g2) (h3 : (0 ≤ c ∧ c ≤ 127) → ¬ zl Z < 120 → ∀ g2 : sp_G, mRep g2 (zr 5 Z) → fCo g g2 → Q (some (v_i (-4))) g2) (h2 : ¬ (0 ≤ c ∧ c ≤ 127) → ∀ g2 : sp_G, mRep g2 (zr 3 Z) → fCo g g2 → Q (some (v_i (-2))) g2) : sp_Met (d + 8) mX6_type [v_r 52, v_i c] g Q := by
  refine sp_of (L := [_, _]) (by decide) (Nat.le_of_ble_eq_true rfl) rfl rfl ?_
  have hll := hV.2.2.2.2.2.1
  have e6 := hR.2.2.2.2.2.1
  refine aw_iload_n dX6_type_0 rfl ?_
  refine aw_iconst dX6_type_1 ?_
  refine aw_bipush dX6_type_2 (by decide) ?_
  refine aw_S3 dX6_type_4 okX6_in lkX6_53 rfl ?_
  refine tX6_in _ (by omega) ?_
  refine aw_ifne_b (tg := 17) dX6_type_7 (by decide) (fun b7 => ?_) (fun b7 => ?_)
  · refine aw_aload_n dX6_type_17 rfl ?_
    refine aw_getI (kz := 6) dX6_type_18 flX6_115 rfl rfl rfl ?_
    rw [e6]
    refine aw_bipush dX6_type_21 (by decide) ?_
    refine aw_icmp_ne (tg := 33) dX6_type_23 (by decide) (by omega) (fun b23 => ?_) (fun b23 => ?_)
    · refine aw_aload_n dX6_type_33 rfl ?_
      refine aw_getR dX6_type_34 flX6_22 rfl rfl ?_
      refine aw_aload_n dX6_type_37 rfl ?_
      refine aw_getI (kz := 6) dX6_type_38 flX6_115 rfl rfl rfl ?_
      rw [e6]
      refine aw_iload_n dX6_type_41 rfl ?_
      refine aw_iast dX6_type_42 rfl (by omega) ?_
      refine aw_aload_n dX6_type_43 rfl ?_
      refine aw_dup dX6_type_44 rfl ?_
      refine aw_getI (kz := 6) dX6_type_45 flX6_115 rfl rfl rfl ?_
      rw [sp_up_o _ _ _ _ (by decide), e6]
      refine aw_iconst dX6_type_48 ?_
      refine aw_iadd dX6_type_49 ?_
      refine aw_putI (kz := 6) dX6_type_50 flX6_115 fi_6_6 rfl rfl rfl  ?_
      refine aw_aload_n dX6_type_53 rfl ?_
      refine aw_getI (kz := 6) dX6_type_54 flX6_115 rfl rfl rfl ?_
      refine aw_iret dX6_type_57 rfl ?_
      rw [sp_up_s]
      refine h1 (by omega) (by omega) _ (hR.txt ((sp_fr.rf.up (by decide)).up (by decide)) ?_ (sp_up_s _ _ _ _) ?_) ((fCo.rf.up (by decide)).up (by decide))
      · rw [sp_up_i _ _ _ _ (by decide), sp_up_o _ _ _ _ (by decide)]
      · exact (l_put hR.2.2.2.2.2.2.1).ne (by decide)
    · refine aw_aload_n dX6_type_26 rfl ?_
      refine aw_bipush dX6_type_27 (by decide) ?_
      refine aw_V1 dX6_type_29 okX6_refuses lkX6_68 rfl rfl rfl ?_
      refine zX6_ref2 _ hR hV (fun g2 r2 c2 => ?_)
      refine aw_iret dX6_type_32 rfl ?_
      exact h3 (by omega) (by omega) g2 r2 c2
  · refine aw_aload_n dX6_type_10 rfl ?_
    refine aw_bipush dX6_type_11 (by decide) ?_
    refine aw_V1 dX6_type_13 okX6_refuses lkX6_68 rfl rfl rfl ?_
    refine zX6_ref0 _ hR hV (fun g2 r2 c2 => ?_)
    refine aw_iret dX6_type_16 rfl ?_
    exact h2 (by omega) g2 r2 c2
theorem rX6_clear (d : Nat) {B : Int} {Z : zZ} {g : sp_G} {Q : sp_P} (hR : mRep g Z) (hV : zV B Z) (h1 : ∀ g2 : sp_G, mRep g2 (zcl Z) → fCo g g2 → Q (some (v_i (zl Z))) g2) : sp_Met (d + 8) mX6_clear [v_r 52] g Q := by
  refine sp_of (L := [_, _]) (by decide) (Nat.le_of_ble_eq_true rfl) rfl rfl ?_
  refine aw_aload_n dX6_clear_0 rfl ?_
  refine aw_getI (kz := 6) dX6_clear_1 flX6_115 rfl rfl rfl ?_
  rw [hR.2.2.2.2.2.1]
  refine aw_istore_n (L2 := [_, _]) dX6_clear_4 (by decide) rfl rfl ?_
  refine aw_aload_n dX6_clear_5 rfl ?_
  refine aw_iconst dX6_clear_6 ?_
  refine aw_putI (kz := 6) dX6_clear_7 flX6_115 fi_6_6 rfl rfl rfl  ?_
  refine aw_iload_n dX6_clear_10 rfl ?_
  refine aw_iret dX6_clear_11 rfl ?_
  exact h1 _ (hR.txt (sp_fr.rf.up (by decide)) (sp_up_i _ _ _ _ (by decide)) (sp_up_s _ _ _ _) (fun i j i0 i1 => by omega)) (fCo.rf.up (by decide))
