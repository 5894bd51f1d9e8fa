theorem tX1_keepZ (d : Nat) {B : Int} {Z : zZ} {g : sp_G} {Q : sp_P} (hR : cRep g Z) (hV : zV B Z) (hQ : ∀ (n : Nat) (g2 : sp_G), n < 8 → cRep g2 (zk Z) → fMo g g2 → tR g2 (7 + 4 * n) (zt Z) → Q (some (v_r (7 + 4 * n))) g2) : sp_Met (d + 2) mX1_keep [v_r 5, v_r 1] g Q := by
  have hk := hR.keep hV
  have hc := hV.2.1
  exact tX1_keep d hR.2.1 (by rw [hR.2.2.1]; exact hc) (hQ (g 5 1).toNat (kpG g) (by have := hR.2.1; omega) hk.1 hk.2.1 hk.2.2)
theorem zX4_switchLayer (d : Nat) {B : Int} {Z : zZ} {l to : Int} {g : sp_G} {Q : sp_P} (hR : cRep g Z) (hV : zV B Z) (hl : 0 ≤ l ∧ l ≤ 3) (ht : 0 ≤ to ∧ to ≤ 1) (hQ : ∀ g2 : sp_G, cRep g2 (zw ((zp (zt Z)), (zd (zt Z)), (zm (zt Z)), sw (zo (zt Z)) l to) Z) → fMo g g2 → Q (some (v_i (if bt (zo (zt Z)) l = to then 0 else 1))) g2) : sp_Met d mX4_switchLayer [v_r 1, v_i l, v_i to] g Q := by
  have hon : g 1 3 = (zo (zt Z)) := hR.1.2.2.2
  have hb := bt_01 (on := (zo (zt Z))) (l := l) hV.1.2.2.2 (by omega)
  refine tX4_switchLayer d (by rw [hon]; exact hb) ht ?_
  rw [hon]
  refine hQ _ (hR.town (sp_fr.rf.up (by decide)) ⟨hR.1.1.ne (by decide), hR.1.2.1.ne (by decide), hR.1.2.2.1.ne (by decide), sp_up_s _ _ _ _⟩) (fMo.rf.up (by decide))
theorem zX4_setNames (d : Nat) {B : Int} {Z : zZ} {l e n : Int} {g : sp_G} {Q : sp_P} (hR : cRep g Z) (hV : zV B Z) (hl : 0 ≤ l ∧ l ≤ 3) (he : 0 ≤ e ∧ e ≤ 5) (hQ : ∀ g2 : sp_G, cRep g2 (zw ((zp (zt Z)), (zd (zt Z)), up1 (zm (zt Z)) (l * 6 + e) n, (zo (zt Z))) Z) → fMo g g2 → Q (some (v_i ((zm (zt Z)) (l * 6 + e)))) g2) : sp_Met d mX4_setNames [v_r 1, v_i l, v_i e, v_i n] g Q := by
  have hna : g 4 (l * 6 + e) = (zm (zt Z)) (l * 6 + e) := hR.1.2.2.1 (l * 6 + e) _ (by omega) (by omega) (by omega)
  refine tX4_setNames d (by omega) ?_
  rw [hna]
  refine hQ _ (hR.town (sp_fr.rf.up (by decide)) ⟨hR.1.1.ne (by decide), hR.1.2.1.ne (by decide), hR.1.2.2.1.up (i := l * 6 + e) (by omega), ?_⟩) (fMo.rf.up (by decide))
  rw [sp_up_o _ _ _ _ (by decide)]; exact hR.1.2.2.2
theorem zX4_setVoters (d : Nat) {B : Int} {Z : zZ} {a n : Int} {g : sp_G} {Q : sp_P} (hR : cRep g Z) (hV : zV B Z) (ha : 0 ≤ a ∧ a ≤ 23) (hQ : ∀ g2 : sp_G, cRep g2 (zw (up1 (zp (zt Z)) a n, (zd (zt Z)), (zm (zt Z)), (zo (zt Z))) Z) → fMo g g2 → Q (some (v_i ((zp (zt Z)) a))) g2) : sp_Met d mX4_setVoters [v_r 1, v_i a, v_i n] g Q := by
  have hpe : g 2 a = (zp (zt Z)) a := hR.1.1 a _ (by omega) (by omega) (by omega)
  refine tX4_setVoters d (by omega) ?_
  rw [hpe]
  refine hQ _ (hR.town (sp_fr.rf.up (by decide)) ⟨hR.1.1.up (i := a) (by omega), hR.1.2.1.ne (by decide), hR.1.2.2.1.ne (by decide), ?_⟩) (fMo.rf.up (by decide))
  rw [sp_up_o _ _ _ _ (by decide)]; exact hR.1.2.2.2
theorem zX4_put (d : Nat) {B : Int} {Z : zZ} {l e a b : Int} {g : sp_G} {Q : sp_P} (hR : cRep g Z) (hV : zV B Z) (hl : 0 ≤ l ∧ l ≤ 3) (he : 0 ≤ e ∧ e ≤ 5) (ha : 0 ≤ a ∧ a ≤ 23) (hb : 0 ≤ b ∧ b ≤ 23) (hab : a / 4 ≤ b / 4 ∧ a % 4 ≤ b % 4) (hQ : ∀ g2 : sp_G, cRep g2 (zw ((zp (zt Z)), pr_D l e a b (zd (zt Z)) 24, (zm (zt Z)), (zo (zt Z))) Z) → fMo g g2 → Q (some (v_i (sI (pr_F l e a b (zd (zt Z))) 24))) g2) : sp_Met (d + 1) mX4_putRectangle [v_r 1, v_i l, v_i e, v_i a, v_i b] g Q := by
  refine tX4_putRectangle d hl he ha hb hV.1.2.1 hab hR.1.2.1 (fun many g2 hI => ?_)
  obtain ⟨i1, i2, i3, i4⟩ := hI
  rw [i1]
  exact hQ g2 (hR.town (i2.wk (by decide)) ⟨hR.1.1.fr i2 (by decide), i3, hR.1.2.2.1.fr i2 (by decide), by rw [i2 1 (by decide)]; exact hR.1.2.2.2⟩) (fMo.fr i2 (by decide))
theorem zX4_draw (d : Nat) {B : Int} {Z : zZ} {l sd n : Int} {g : sp_G} {Q : sp_P} (hR : cRep g Z) (hV : zV B Z) (hl : 0 ≤ l ∧ l ≤ 3) (hs : 0 ≤ sd ∧ sd ≤ 999999) (hn : 1 ≤ n ∧ n ≤ 6) (hQ : ∀ g2 : sp_G, cRep g2 (zw (dr_p sd, ly l (dr_d sd n) (zd (zt Z)) 24, (zm (zt Z)), (zo (zt Z))) Z) → fMo g g2 → Q (some (v_i (sI (dr_p sd) 24))) g2) : sp_Met (d + 1) mX4_drawLayer [v_r 1, v_i l, v_i sd, v_i n] g Q := by
  refine tX4_drawLayer d hl hs hn hV.1.2.1 hR.1.1 hR.1.2.1 (fun g2 hf hp hd => ?_)
  exact hQ g2 (hR.town (hf.wk (by decide)) ⟨hp, hd, hR.1.2.2.1.fr hf (by decide), by rw [hf 1 (by decide)]; exact hR.1.2.2.2⟩) (fMo.fr hf (by decide))
theorem zX4_follow (d : Nat) {B : Int} {Z : zZ} {t : Nat} {l way k : Int} {g : sp_G} {Q : sp_P} (hR : cRep g Z) (hV : zV B Z) (hT : sp_isT t) (ht : 7 ≤ t) (htT : tR g t (zt Z)) (hl : 0 ≤ l ∧ l ≤ 3) (hw : 0 ≤ way ∧ way ≤ 3) (hk : 0 ≤ k ∧ k ≤ 3) (hQ : ∀ g2 : sp_G, cRep g2 (zw ((zp (zt Z)), ly l (fw (zd (zt Z)) l way k) (zd (zt Z)) 24, (zm (zt Z)), (zo (zt Z))) Z) → fMo g g2 → Q (some (v_i (sI (fw_c (zd (zt Z)) l way k) 24))) g2) : sp_Met (d + 2) mX4_followMap [v_r 1, v_r t, v_i l, v_i way, v_i k] g Q := by
  refine tX4_followMap d hT (by omega) hl hw hk hV.1.2.1 htT.2.1 hR.1.2.1 (fun g2 hf hd => ?_)
  exact hQ g2 (hR.town (hf.wk (by decide)) ⟨hR.1.1.fr hf (by decide), hd, hR.1.2.2.1.fr hf (by decide), by rw [hf 1 (by decide)]; exact hR.1.2.2.2⟩) (fMo.fr hf (by decide))
theorem tX5_refuseBad (d : Nat)  {g : sp_G} {Q : sp_P}  (hQ : Q (some (v_i (-2))) (sp_up g 0 5 (g 0 5 + 1))) : sp_Met d mX5_refuseBad [v_r 0] g Q := by
  refine sp_of (L := [_]) (by decide) (Nat.le_of_ble_eq_true rfl) rfl rfl ?_
  refine aw_aload_n dX5_refuseBad_0 rfl ?_
  refine aw_dup dX5_refuseBad_1 rfl ?_
  refine aw_getI (kz := 5) dX5_refuseBad_2 flX5_44 rfl rfl rfl ?_
  refine aw_iconst dX5_refuseBad_5 ?_
  refine aw_iadd dX5_refuseBad_6 ?_
  refine aw_putI (kz := 5) dX5_refuseBad_7 flX5_44 fi_5_5 rfl rfl rfl  ?_
  refine aw_bipush dX5_refuseBad_10 (by decide) ?_
  refine aw_iret dX5_refuseBad_12 rfl ?_
  exact hQ
theorem zX5_refuseBad (d : Nat) {B : Int} {Z : zZ} {g : sp_G} {Q : sp_P} (hR : cRep g Z) (hV : zV B Z) (hQ : ∀ g2 : sp_G, cRep g2 (zr 3 Z) → fMo g g2 → Q (some (v_i (-2))) g2) : sp_Met d mX5_refuseBad [v_r 0] g Q := tX5_refuseBad d (hQ _ (hR.bad (k := 3) (by omega)) (fMo.rf.up (by decide)))
theorem tX5_refuseNo (d : Nat)  {g : sp_G} {Q : sp_P}  (hQ : Q (some (v_i (-3))) (sp_up g 0 6 (g 0 6 + 1))) : sp_Met d mX5_refuseNo [v_r 0] g Q := by
  refine sp_of (L := [_]) (by decide) (Nat.le_of_ble_eq_true rfl) rfl rfl ?_
  refine aw_aload_n dX5_refuseNo_0 rfl ?_
  refine aw_dup dX5_refuseNo_1 rfl ?_
  refine aw_getI (kz := 6) dX5_refuseNo_2 flX5_48 rfl rfl rfl ?_
  refine aw_iconst dX5_refuseNo_5 ?_
  refine aw_iadd dX5_refuseNo_6 ?_
  refine aw_putI (kz := 6) dX5_refuseNo_7 flX5_48 fi_5_6 rfl rfl rfl  ?_
  refine aw_bipush dX5_refuseNo_10 (by decide) ?_
  refine aw_iret dX5_refuseNo_12 rfl ?_
  exact hQ
theorem zX5_refuseNo (d : Nat) {B : Int} {Z : zZ} {g : sp_G} {Q : sp_P} (hR : cRep g Z) (hV : zV B Z) (hQ : ∀ g2 : sp_G, cRep g2 (zr 4 Z) → fMo g g2 → Q (some (v_i (-3))) g2) : sp_Met d mX5_refuseNo [v_r 0] g Q := tX5_refuseNo d (hQ _ (hR.bad (k := 4) (by omega)) (fMo.rf.up (by decide)))
theorem tX5_refuseFull (d : Nat)  {g : sp_G} {Q : sp_P}  (hQ : Q (some (v_i (-4))) (sp_up g 0 7 (g 0 7 + 1))) : sp_Met d mX5_refuseFull [v_r 0] g Q := by
  refine sp_of (L := [_]) (by decide) (Nat.le_of_ble_eq_true rfl) rfl rfl ?_
  refine aw_aload_n dX5_refuseFull_0 rfl ?_
  refine aw_dup dX5_refuseFull_1 rfl ?_
  refine aw_getI (kz := 7) dX5_refuseFull_2 flX5_51 rfl rfl rfl ?_
  refine aw_iconst dX5_refuseFull_5 ?_
  refine aw_iadd dX5_refuseFull_6 ?_
  refine aw_putI (kz := 7) dX5_refuseFull_7 flX5_51 fi_5_7 rfl rfl rfl  ?_
  refine aw_bipush dX5_refuseFull_10 (by decide) ?_
  refine aw_iret dX5_refuseFull_12 rfl ?_
  exact hQ
theorem zX5_refuseFull (d : Nat) {B : Int} {Z : zZ} {g : sp_G} {Q : sp_P} (hR : cRep g Z) (hV : zV B Z) (hQ : ∀ g2 : sp_G, cRep g2 (zr 5 Z) → fMo g g2 → Q (some (v_i (-4))) g2) : sp_Met d mX5_refuseFull [v_r 0] g Q := tX5_refuseFull d (hQ _ (hR.bad (k := 5) (by omega)) (fMo.rf.up (by decide)))
theorem qX5_on (d : Nat) {B : Int} {Z : zZ} {l to : Int} {g : sp_G} {Q : sp_P} (hR : cRep g Z) (hV : zV B Z) (hr : ((-2147483648 ≤ l ∧ l < 2147483648)) ∧ ((-2147483648 ≤ to ∧ to < 2147483648))) (h1 : ((0 ≤ l ∧ l ≤ 3) ∧ (0 ≤ to ∧ to ≤ 1)) → ∀ g2 : sp_G, cRep g2 (zw ((zp (zt Z)), (zd (zt Z)), (zm (zt Z)), sw (zo (zt Z)) l to) (zk Z)) → fMo g g2 → Q (some (v_i (if bt (zo (zt Z)) l = to then 0 else 1))) g2) (h2 : ¬ (((0 ≤ l ∧ l ≤ 3) ∧ (0 ≤ to ∧ to ≤ 1))) → ∀ g2 : sp_G, cRep g2 (zr 3 Z) → fMo g g2 → Q (some (v_i (-2))) g2) : sp_Met (d + 3) mX5_on [v_r 0, v_i l, v_i to] g Q := by
  refine sp_of (L := [_, _, _]) (by decide) (Nat.le_of_ble_eq_true rfl) rfl rfl ?_
  refine aw_iload_n dX5_on_0 rfl ?_
  refine aw_S1 dX5_on_1 okX5_isLayer lkX5_54 rfl ?_
  refine tX5_isLayer _ (by omega) ?_
  refine aw_ifeq_b (tg := 16) dX5_on_4 (by decide) (fun h4 => ?_) (fun h4 => ?_)
  · refine aw_aload_n dX5_on_16 rfl ?_
    refine aw_V0 dX5_on_17 okX5_refuseBad lkX5_62 rfl rfl rfl ?_
    refine zX5_refuseBad _ hR hV (fun g2 r2 m2 => ?_)
    refine aw_iret dX5_on_20 rfl ?_
    first | exact h2 (by omega) g2 r2 m2 | exact h1 (by omega) g3 r3 (m2.tr m3)
  · refine aw_iload_n dX5_on_7 rfl ?_
    refine aw_iconst dX5_on_8 ?_
    refine aw_iconst dX5_on_9 ?_
    refine aw_S3 dX5_on_10 okX5_within lkX5_58 rfl ?_
    refine tX5_within _ (by omega) ?_
    refine aw_ifne_b (tg := 21) dX5_on_13 (by decide) (fun h13 => ?_) (fun h13 => ?_)
    · refine aw_aload_n dX5_on_21 rfl ?_
      refine aw_getR dX5_on_22 flX5_19 rfl rfl ?_
      refine aw_aload_n dX5_on_25 rfl ?_
      refine aw_getR dX5_on_26 flX5_10 rfl rfl ?_
      refine aw_V1 dX5_on_29 okX1_keep lkX5_66 rfl rfl rfl ?_
      refine tX1_keepZ _ hR hV (fun n g2 hn r2 m2 t2 => ?_)
      have v2 := zk_V hV
      refine aw_pop dX5_on_32 rfl ?_
      refine aw_aload_n dX5_on_33 rfl ?_
      refine aw_getR dX5_on_34 flX5_10 rfl rfl ?_
      refine aw_iload_n dX5_on_37 rfl ?_
      refine aw_iload_n dX5_on_38 rfl ?_
      refine aw_V2 dX5_on_39 okX4_switchLayer lkX5_70 rfl rfl rfl ?_
      refine zX4_switchLayer _ r2 v2 (by omega) (by omega) (fun g3 r3 m3 => ?_)
      refine aw_iret dX5_on_42 rfl ?_
      first | exact h2 (by omega) g2 r2 m2 | exact h1 (by omega) g3 r3 (m2.tr m3)
    · refine aw_aload_n dX5_on_16 rfl ?_
      refine aw_V0 dX5_on_17 okX5_refuseBad lkX5_62 rfl rfl rfl ?_
      refine zX5_refuseBad _ hR hV (fun g2 r2 m2 => ?_)
      refine aw_iret dX5_on_20 rfl ?_
      first | exact h2 (by omega) g2 r2 m2 | exact h1 (by omega) g3 r3 (m2.tr m3)
theorem qX5_puts (d : Nat) {B : Int} {Z : zZ} {l e a b : Int} {g : sp_G} {Q : sp_P} (hR : cRep g Z) (hV : zV B Z) (hr : ((-2147483648 ≤ l ∧ l < 2147483648)) ∧ ((-2147483648 ≤ e ∧ e < 2147483648)) ∧ ((-2147483648 ≤ a ∧ a < 2147483648)) ∧ ((-2147483648 ≤ b ∧ b < 2147483648))) (h1 : ((0 ≤ l ∧ l ≤ 3) ∧ (0 ≤ e ∧ e ≤ 5) ∧ (0 ≤ a ∧ a ≤ 23) ∧ (0 ≤ b ∧ b ≤ 23) ∧ a / 4 ≤ b / 4 ∧ a % 4 ≤ b % 4) → ∀ g2 : sp_G, cRep g2 (zw ((zp (zt Z)), pr_D l e a b (zd (zt Z)) 24, (zm (zt Z)), (zo (zt Z))) (zk Z)) → fMo g g2 → Q (some (v_i (sI (pr_F l e a b (zd (zt Z))) 24))) g2) (h2 : ¬ (((0 ≤ l ∧ l ≤ 3) ∧ (0 ≤ e ∧ e ≤ 5) ∧ (0 ≤ a ∧ a ≤ 23) ∧ (0 ≤ b ∧ b ≤ 23) ∧ a / 4 ≤ b / 4 ∧ a % 4 ≤ b % 4)) → ∀ g2 : sp_G, cRep g2 (zr 3 Z) → fMo g g2 → Q (some (v_i (-2))) g2) : sp_Met (d + 3) mX5_puts [v_r 0, v_i l, v_i e, v_i a, v_i b] g Q := by
  refine sp_of (L := [_, _, _, _, _]) (by decide) (Nat.le_of_ble_eq_true rfl) rfl rfl ?_
  refine aw_iload_n dX5_puts_0 rfl ?_
  refine aw_S1 dX5_puts_1 okX5_isLayer lkX5_54 rfl ?_
  refine tX5_isLayer _ (by omega) ?_
  refine aw_ifeq_b (tg := 23) dX5_puts_4 (by decide) (fun h4 => ?_) (fun h4 => ?_)
  · refine aw_aload_n dX5_puts_23 rfl ?_
    refine aw_V0 dX5_puts_24 okX5_refuseBad lkX5_62 rfl rfl rfl ?_
    refine zX5_refuseBad _ hR hV (fun g2 r2 m2 => ?_)
    refine aw_iret dX5_puts_27 rfl ?_
    first | exact h2 (by omega) g2 r2 m2 | exact h1 (by omega) g3 r3 (m2.tr m3)
  · refine aw_iload_n dX5_puts_7 rfl ?_
    refine aw_S1 dX5_puts_8 okX5_isDistrict lkX5_74 rfl ?_
    refine tX5_isDistrict _ (by omega) ?_
    refine aw_ifeq_b (tg := 23) dX5_puts_11 (by decide) (fun h11 => ?_) (fun h11 => ?_)
    · refine aw_aload_n dX5_puts_23 rfl ?_
      refine aw_V0 dX5_puts_24 okX5_refuseBad lkX5_62 rfl rfl rfl ?_
      refine zX5_refuseBad _ hR hV (fun g2 r2 m2 => ?_)
      refine aw_iret dX5_puts_27 rfl ?_
      first | exact h2 (by omega) g2 r2 m2 | exact h1 (by omega) g3 r3 (m2.tr m3)
    · refine aw_iload_n dX5_puts_14 rfl ?_
      refine aw_iload dX5_puts_15 rfl ?_
      refine aw_S2 dX5_puts_17 okX5_isRectangle lkX5_77 rfl ?_
      refine tX5_isRectangle _ (by omega) ?_
      refine aw_ifne_b (tg := 28) dX5_puts_20 (by decide) (fun h20 => ?_) (fun h20 => ?_)
      · refine aw_aload_n dX5_puts_28 rfl ?_
        refine aw_getR dX5_puts_29 flX5_19 rfl rfl ?_
        refine aw_aload_n dX5_puts_32 rfl ?_
        refine aw_getR dX5_puts_33 flX5_10 rfl rfl ?_
        refine aw_V1 dX5_puts_36 okX1_keep lkX5_66 rfl rfl rfl ?_
        refine tX1_keepZ _ hR hV (fun n g2 hn r2 m2 t2 => ?_)
        have v2 := zk_V hV
        refine aw_pop dX5_puts_39 rfl ?_
        refine aw_aload_n dX5_puts_40 rfl ?_
        refine aw_getR dX5_puts_41 flX5_10 rfl rfl ?_
        refine aw_iload_n dX5_puts_44 rfl ?_
        refine aw_iload_n dX5_puts_45 rfl ?_
        refine aw_iload_n dX5_puts_46 rfl ?_
        refine aw_iload dX5_puts_47 rfl ?_
        refine aw_V4 dX5_puts_49 okX4_putRectangle lkX5_81 rfl rfl rfl ?_
        refine zX4_put _ r2 v2 (by omega) (by omega) (by omega) (by omega) (by omega) (fun g3 r3 m3 => ?_)
        refine aw_iret dX5_puts_52 rfl ?_
        first | exact h2 (by omega) g2 r2 m2 | exact h1 (by omega) g3 r3 (m2.tr m3)
      · refine aw_aload_n dX5_puts_23 rfl ?_
        refine aw_V0 dX5_puts_24 okX5_refuseBad lkX5_62 rfl rfl rfl ?_
        refine zX5_refuseBad _ hR hV (fun g2 r2 m2 => ?_)
        refine aw_iret dX5_puts_27 rfl ?_
        first | exact h2 (by omega) g2 r2 m2 | exact h1 (by omega) g3 r3 (m2.tr m3)
theorem qX5_names (d : Nat) {B : Int} {Z : zZ} {l e n : Int} {g : sp_G} {Q : sp_P} (hR : cRep g Z) (hV : zV B Z) (hr : ((-2147483648 ≤ l ∧ l < 2147483648)) ∧ ((-2147483648 ≤ e ∧ e < 2147483648)) ∧ ((-2147483648 ≤ n ∧ n < 2147483648))) (h1 : ((0 ≤ l ∧ l ≤ 3) ∧ (0 ≤ e ∧ e ≤ 5) ∧ (1 ≤ n ∧ n ≤ 8)) → ∀ g2 : sp_G, cRep g2 (zw ((zp (zt Z)), (zd (zt Z)), up1 (zm (zt Z)) (l * 6 + e) n, (zo (zt Z))) (zk Z)) → fMo g g2 → Q (some (v_i ((zm (zt Z)) (l * 6 + e)))) g2) (h2 : ¬ (((0 ≤ l ∧ l ≤ 3) ∧ (0 ≤ e ∧ e ≤ 5) ∧ (1 ≤ n ∧ n ≤ 8))) → ∀ g2 : sp_G, cRep g2 (zr 3 Z) → fMo g g2 → Q (some (v_i (-2))) g2) : sp_Met (d + 3) mX5_names [v_r 0, v_i l, v_i e, v_i n] g Q := by
  refine sp_of (L := [_, _, _, _]) (by decide) (Nat.le_of_ble_eq_true rfl) rfl rfl ?_
  refine aw_iload_n dX5_names_0 rfl ?_
  refine aw_S1 dX5_names_1 okX5_isLayer lkX5_54 rfl ?_
  refine tX5_isLayer _ (by omega) ?_
  refine aw_ifeq_b (tg := 24) dX5_names_4 (by decide) (fun h4 => ?_) (fun h4 => ?_)
  · refine aw_aload_n dX5_names_24 rfl ?_
    refine aw_V0 dX5_names_25 okX5_refuseBad lkX5_62 rfl rfl rfl ?_
    refine zX5_refuseBad _ hR hV (fun g2 r2 m2 => ?_)
    refine aw_iret dX5_names_28 rfl ?_
    first | exact h2 (by omega) g2 r2 m2 | exact h1 (by omega) g3 r3 (m2.tr m3)
  · refine aw_iload_n dX5_names_7 rfl ?_
    refine aw_S1 dX5_names_8 okX5_isDistrict lkX5_74 rfl ?_
    refine tX5_isDistrict _ (by omega) ?_
    refine aw_ifeq_b (tg := 24) dX5_names_11 (by decide) (fun h11 => ?_) (fun h11 => ?_)
    · refine aw_aload_n dX5_names_24 rfl ?_
      refine aw_V0 dX5_names_25 okX5_refuseBad lkX5_62 rfl rfl rfl ?_
      refine zX5_refuseBad _ hR hV (fun g2 r2 m2 => ?_)
      refine aw_iret dX5_names_28 rfl ?_
      first | exact h2 (by omega) g2 r2 m2 | exact h1 (by omega) g3 r3 (m2.tr m3)
    · refine aw_iload_n dX5_names_14 rfl ?_
      refine aw_iconst dX5_names_15 ?_
      refine aw_bipush dX5_names_16 (by decide) ?_
      refine aw_S3 dX5_names_18 okX5_within lkX5_58 rfl ?_
      refine tX5_within _ (by omega) ?_
      refine aw_ifne_b (tg := 29) dX5_names_21 (by decide) (fun h21 => ?_) (fun h21 => ?_)
      · refine aw_aload_n dX5_names_29 rfl ?_
        refine aw_getR dX5_names_30 flX5_19 rfl rfl ?_
        refine aw_aload_n dX5_names_33 rfl ?_
        refine aw_getR dX5_names_34 flX5_10 rfl rfl ?_
        refine aw_V1 dX5_names_37 okX1_keep lkX5_66 rfl rfl rfl ?_
        refine tX1_keepZ _ hR hV (fun n g2 hn r2 m2 t2 => ?_)
        have v2 := zk_V hV
        refine aw_pop dX5_names_40 rfl ?_
        refine aw_aload_n dX5_names_41 rfl ?_
        refine aw_getR dX5_names_42 flX5_10 rfl rfl ?_
        refine aw_iload_n dX5_names_45 rfl ?_
        refine aw_iload_n dX5_names_46 rfl ?_
        refine aw_iload_n dX5_names_47 rfl ?_
        refine aw_V3 dX5_names_48 okX4_setNames lkX5_85 rfl rfl rfl ?_
        refine zX4_setNames _ r2 v2 (by omega) (by omega) (fun g3 r3 m3 => ?_)
        refine aw_iret dX5_names_51 rfl ?_
        first | exact h2 (by omega) g2 r2 m2 | exact h1 (by omega) g3 r3 (m2.tr m3)
      · refine aw_aload_n dX5_names_24 rfl ?_
        refine aw_V0 dX5_names_25 okX5_refuseBad lkX5_62 rfl rfl rfl ?_
        refine zX5_refuseBad _ hR hV (fun g2 r2 m2 => ?_)
        refine aw_iret dX5_names_28 rfl ?_
        first | exact h2 (by omega) g2 r2 m2 | exact h1 (by omega) g3 r3 (m2.tr m3)
theorem qX5_voters (d : Nat) {B : Int} {Z : zZ} {a n : Int} {g : sp_G} {Q : sp_P} (hR : cRep g Z) (hV : zV B Z) (hr : ((-2147483648 ≤ a ∧ a < 2147483648)) ∧ ((-2147483648 ≤ n ∧ n < 2147483648))) (h1 : ((0 ≤ a ∧ a ≤ 23) ∧ (0 ≤ n ∧ n ≤ 99)) → ∀ g2 : sp_G, cRep g2 (zw (up1 (zp (zt Z)) a n, (zd (zt Z)), (zm (zt Z)), (zo (zt Z))) (zk Z)) → fMo g g2 → Q (some (v_i ((zp (zt Z)) a))) g2) (h2 : ¬ (((0 ≤ a ∧ a ≤ 23) ∧ (0 ≤ n ∧ n ≤ 99))) → ∀ g2 : sp_G, cRep g2 (zr 3 Z) → fMo g g2 → Q (some (v_i (-2))) g2) : sp_Met (d + 3) mX5_voters [v_r 0, v_i a, v_i n] g Q := by
  refine sp_of (L := [_, _, _]) (by decide) (Nat.le_of_ble_eq_true rfl) rfl rfl ?_
  refine aw_iload_n dX5_voters_0 rfl ?_
  refine aw_S1 dX5_voters_1 okX5_isBlock lkX5_89 rfl ?_
  refine tX5_isBlock _ (by omega) ?_
  refine aw_ifeq_b (tg := 17) dX5_voters_4 (by decide) (fun h4 => ?_) (fun h4 => ?_)
  · refine aw_aload_n dX5_voters_17 rfl ?_
    refine aw_V0 dX5_voters_18 okX5_refuseBad lkX5_62 rfl rfl rfl ?_
    refine zX5_refuseBad _ hR hV (fun g2 r2 m2 => ?_)
    refine aw_iret dX5_voters_21 rfl ?_
    first | exact h2 (by omega) g2 r2 m2 | exact h1 (by omega) g3 r3 (m2.tr m3)
  · refine aw_iload_n dX5_voters_7 rfl ?_
    refine aw_iconst dX5_voters_8 ?_
    refine aw_bipush dX5_voters_9 (by decide) ?_
    refine aw_S3 dX5_voters_11 okX5_within lkX5_58 rfl ?_
    refine tX5_within _ (by omega) ?_
    refine aw_ifne_b (tg := 22) dX5_voters_14 (by decide) (fun h14 => ?_) (fun h14 => ?_)
    · refine aw_aload_n dX5_voters_22 rfl ?_
      refine aw_getR dX5_voters_23 flX5_19 rfl rfl ?_
      refine aw_aload_n dX5_voters_26 rfl ?_
      refine aw_getR dX5_voters_27 flX5_10 rfl rfl ?_
      refine aw_V1 dX5_voters_30 okX1_keep lkX5_66 rfl rfl rfl ?_
      refine tX1_keepZ _ hR hV (fun n g2 hn r2 m2 t2 => ?_)
      have v2 := zk_V hV
      refine aw_pop dX5_voters_33 rfl ?_
      refine aw_aload_n dX5_voters_34 rfl ?_
      refine aw_getR dX5_voters_35 flX5_10 rfl rfl ?_
      refine aw_iload_n dX5_voters_38 rfl ?_
      refine aw_iload_n dX5_voters_39 rfl ?_
      refine aw_V2 dX5_voters_40 okX4_setVoters lkX5_92 rfl rfl rfl ?_
      refine zX4_setVoters _ r2 v2 (by omega) (fun g3 r3 m3 => ?_)
      refine aw_iret dX5_voters_43 rfl ?_
      first | exact h2 (by omega) g2 r2 m2 | exact h1 (by omega) g3 r3 (m2.tr m3)
    · refine aw_aload_n dX5_voters_17 rfl ?_
      refine aw_V0 dX5_voters_18 okX5_refuseBad lkX5_62 rfl rfl rfl ?_
      refine zX5_refuseBad _ hR hV (fun g2 r2 m2 => ?_)
      refine aw_iret dX5_voters_21 rfl ?_
      first | exact h2 (by omega) g2 r2 m2 | exact h1 (by omega) g3 r3 (m2.tr m3)
theorem qX5_draw (d : Nat) {B : Int} {Z : zZ} {l sd n : Int} {g : sp_G} {Q : sp_P} (hR : cRep g Z) (hV : zV B Z) (hr : ((-2147483648 ≤ l ∧ l < 2147483648)) ∧ ((-2147483648 ≤ sd ∧ sd < 2147483648)) ∧ ((-2147483648 ≤ n ∧ n < 2147483648))) (h1 : ((0 ≤ l ∧ l ≤ 3) ∧ (0 ≤ sd ∧ sd ≤ 999999) ∧ (1 ≤ n ∧ n ≤ 6)) → ∀ g2 : sp_G, cRep g2 (zw (dr_p sd, ly l (dr_d sd n) (zd (zt Z)) 24, (zm (zt Z)), (zo (zt Z))) (zk Z)) → fMo g g2 → Q (some (v_i (sI (dr_p sd) 24))) g2) (h2 : ¬ (((0 ≤ l ∧ l ≤ 3) ∧ (0 ≤ sd ∧ sd ≤ 999999) ∧ (1 ≤ n ∧ n ≤ 6))) → ∀ g2 : sp_G, cRep g2 (zr 3 Z) → fMo g g2 → Q (some (v_i (-2))) g2) : sp_Met (d + 3) mX5_draw [v_r 0, v_i l, v_i sd, v_i n] g Q := by
  refine sp_of (L := [_, _, _, _]) (by decide) (Nat.le_of_ble_eq_true rfl) rfl rfl ?_
  refine aw_iload_n dX5_draw_0 rfl ?_
  refine aw_S1 dX5_draw_1 okX5_isLayer lkX5_54 rfl ?_
  refine tX5_isLayer _ (by omega) ?_
  refine aw_ifeq_b (tg := 27) dX5_draw_4 (by decide) (fun h4 => ?_) (fun h4 => ?_)
  · refine aw_aload_n dX5_draw_27 rfl ?_
    refine aw_V0 dX5_draw_28 okX5_refuseBad lkX5_62 rfl rfl rfl ?_
    refine zX5_refuseBad _ hR hV (fun g2 r2 m2 => ?_)
    refine aw_iret dX5_draw_31 rfl ?_
    first | exact h2 (by omega) g2 r2 m2 | exact h1 (by omega) g3 r3 (m2.tr m3)
  · refine aw_iload_n dX5_draw_7 rfl ?_
    refine aw_iconst dX5_draw_8 ?_
    refine aw_ldc dX5_draw_9 kcX5_95 ?_
    refine aw_S3 dX5_draw_11 okX5_within lkX5_58 rfl ?_
    refine tX5_within _ (by omega) ?_
    refine aw_ifeq_b (tg := 27) dX5_draw_14 (by decide) (fun h14 => ?_) (fun h14 => ?_)
    · refine aw_aload_n dX5_draw_27 rfl ?_
      refine aw_V0 dX5_draw_28 okX5_refuseBad lkX5_62 rfl rfl rfl ?_
      refine zX5_refuseBad _ hR hV (fun g2 r2 m2 => ?_)
      refine aw_iret dX5_draw_31 rfl ?_
      first | exact h2 (by omega) g2 r2 m2 | exact h1 (by omega) g3 r3 (m2.tr m3)
    · refine aw_iload_n dX5_draw_17 rfl ?_
      refine aw_iconst dX5_draw_18 ?_
      refine aw_bipush dX5_draw_19 (by decide) ?_
      refine aw_S3 dX5_draw_21 okX5_within lkX5_58 rfl ?_
      refine tX5_within _ (by omega) ?_
      refine aw_ifne_b (tg := 32) dX5_draw_24 (by decide) (fun h24 => ?_) (fun h24 => ?_)
      · refine aw_aload_n dX5_draw_32 rfl ?_
        refine aw_getR dX5_draw_33 flX5_19 rfl rfl ?_
        refine aw_aload_n dX5_draw_36 rfl ?_
        refine aw_getR dX5_draw_37 flX5_10 rfl rfl ?_
        refine aw_V1 dX5_draw_40 okX1_keep lkX5_66 rfl rfl rfl ?_
        refine tX1_keepZ _ hR hV (fun n g2 hn r2 m2 t2 => ?_)
        have v2 := zk_V hV
        refine aw_pop dX5_draw_43 rfl ?_
        refine aw_aload_n dX5_draw_44 rfl ?_
        refine aw_getR dX5_draw_45 flX5_10 rfl rfl ?_
        refine aw_iload_n dX5_draw_48 rfl ?_
        refine aw_iload_n dX5_draw_49 rfl ?_
        refine aw_iload_n dX5_draw_50 rfl ?_
        refine aw_V3 dX5_draw_51 okX4_drawLayer lkX5_96 rfl rfl rfl ?_
        refine zX4_draw _ r2 v2 (by omega) (by omega) (by omega) (fun g3 r3 m3 => ?_)
        refine aw_iret dX5_draw_54 rfl ?_
        first | exact h2 (by omega) g2 r2 m2 | exact h1 (by omega) g3 r3 (m2.tr m3)
      · refine aw_aload_n dX5_draw_27 rfl ?_
        refine aw_V0 dX5_draw_28 okX5_refuseBad lkX5_62 rfl rfl rfl ?_
        refine zX5_refuseBad _ hR hV (fun g2 r2 m2 => ?_)
        refine aw_iret dX5_draw_31 rfl ?_
        first | exact h2 (by omega) g2 r2 m2 | exact h1 (by omega) g3 r3 (m2.tr m3)
theorem qX5_follows (d : Nat) {B : Int} {Z : zZ} {l way k : Int} {g : sp_G} {Q : sp_P} (hR : cRep g Z) (hV : zV B Z) (hr : ((-2147483648 ≤ l ∧ l < 2147483648)) ∧ ((-2147483648 ≤ way ∧ way < 2147483648)) ∧ ((-2147483648 ≤ k ∧ k < 2147483648))) (h1 : ((0 ≤ l ∧ l ≤ 3) ∧ (0 ≤ way ∧ way ≤ 3) ∧ (0 ≤ k ∧ k ≤ 3)) → ∀ g2 : sp_G, cRep g2 (zw ((zp (zt Z)), ly l (fw (zd (zt Z)) l way k) (zd (zt Z)) 24, (zm (zt Z)), (zo (zt Z))) (zk Z)) → fMo g g2 → Q (some (v_i (sI (fw_c (zd (zt Z)) l way k) 24))) g2) (h2 : ¬ (((0 ≤ l ∧ l ≤ 3) ∧ (0 ≤ way ∧ way ≤ 3) ∧ (0 ≤ k ∧ k ≤ 3))) → ∀ g2 : sp_G, cRep g2 (zr 3 Z) → fMo g g2 → Q (some (v_i (-2))) g2) : sp_Met (d + 3) mX5_follows [v_r 0, v_i l, v_i way, v_i k] g Q := by
  refine sp_of (L := [_, _, _, _]) (by decide) (Nat.le_of_ble_eq_true rfl) rfl rfl ?_
  refine aw_iload_n dX5_follows_0 rfl ?_
  refine aw_S1 dX5_follows_1 okX5_isLayer lkX5_54 rfl ?_
  refine tX5_isLayer _ (by omega) ?_
  refine aw_ifeq_b (tg := 23) dX5_follows_4 (by decide) (fun h4 => ?_) (fun h4 => ?_)
  · refine aw_aload_n dX5_follows_23 rfl ?_
    refine aw_V0 dX5_follows_24 okX5_refuseBad lkX5_62 rfl rfl rfl ?_
    refine zX5_refuseBad _ hR hV (fun g2 r2 m2 => ?_)
    refine aw_iret dX5_follows_27 rfl ?_
    first | exact h2 (by omega) g2 r2 m2 | exact h1 (by omega) g3 r3 (m2.tr m3)
  · refine aw_iload_n dX5_follows_7 rfl ?_
    refine aw_iconst dX5_follows_8 ?_
    refine aw_iconst dX5_follows_9 ?_
    refine aw_S3 dX5_follows_10 okX5_within lkX5_58 rfl ?_
    refine tX5_within _ (by omega) ?_
    refine aw_ifeq_b (tg := 23) dX5_follows_13 (by decide) (fun h13 => ?_) (fun h13 => ?_)
    · refine aw_aload_n dX5_follows_23 rfl ?_
      refine aw_V0 dX5_follows_24 okX5_refuseBad lkX5_62 rfl rfl rfl ?_
      refine zX5_refuseBad _ hR hV (fun g2 r2 m2 => ?_)
      refine aw_iret dX5_follows_27 rfl ?_
      first | exact h2 (by omega) g2 r2 m2 | exact h1 (by omega) g3 r3 (m2.tr m3)
    · refine aw_iload_n dX5_follows_16 rfl ?_
      refine aw_S1 dX5_follows_17 okX5_isLayer lkX5_54 rfl ?_
      refine tX5_isLayer _ (by omega) ?_
      refine aw_ifne_b (tg := 28) dX5_follows_20 (by decide) (fun h20 => ?_) (fun h20 => ?_)
      · refine aw_aload_n dX5_follows_28 rfl ?_
        refine aw_getR dX5_follows_29 flX5_10 rfl rfl ?_
        refine aw_aload_n dX5_follows_32 rfl ?_
        refine aw_getR dX5_follows_33 flX5_19 rfl rfl ?_
        refine aw_aload_n dX5_follows_36 rfl ?_
        refine aw_getR dX5_follows_37 flX5_10 rfl rfl ?_
        refine aw_V1 dX5_follows_40 okX1_keep lkX5_66 rfl rfl rfl ?_
        refine tX1_keepZ _ hR hV (fun n g2 hn r2 m2 t2 => ?_)
        have v2 := zk_V hV
        refine aw_iload_n dX5_follows_43 rfl ?_
        refine aw_iload_n dX5_follows_44 rfl ?_
        refine aw_iload_n dX5_follows_45 rfl ?_
        refine aw_V4 dX5_follows_46 okX4_followMap lkX5_99 rfl rfl rfl ?_
        refine zX4_follow _ r2 v2 (sp_isT_r hn) (by omega) t2 (by omega) (by omega) (by omega) (fun g3 r3 m3 => ?_)
        refine aw_iret dX5_follows_49 rfl ?_
        first | exact h2 (by omega) g2 r2 m2 | exact h1 (by omega) g3 r3 (m2.tr m3)
      · refine aw_aload_n dX5_follows_23 rfl ?_
        refine aw_V0 dX5_follows_24 okX5_refuseBad lkX5_62 rfl rfl rfl ?_
        refine zX5_refuseBad _ hR hV (fun g2 r2 m2 => ?_)
        refine aw_iret dX5_follows_27 rfl ?_
        first | exact h2 (by omega) g2 r2 m2 | exact h1 (by omega) g3 r3 (m2.tr m3)
theorem qX5_undo (d : Nat) {B : Int} {Z : zZ} {g : sp_G} {Q : sp_P} (hR : cRep g Z) (hV : zV B Z) (h1 : 0 < zc Z → ∀ g2 : sp_G, cRep g2 (zh Z (zc Z - 1), zh Z, zc Z - 1, zn Z, zx Z, zl Z) → fMo g g2 → Q (some (v_i (zc Z - 1))) g2) (h2 : zc Z = 0 → ∀ g2 : sp_G, cRep g2 (zr 4 Z) → fMo g g2 → Q (some (v_i (-3))) g2) : sp_Met (d + 3) mX5_undo [v_r 0] g Q := by
  refine sp_of (L := [_]) (by decide) (Nat.le_of_ble_eq_true rfl) rfl rfl ?_
  have hc := hV.2.1
  refine aw_aload_n dX5_undo_0 rfl ?_
  refine aw_getR dX5_undo_1 flX5_19 rfl rfl ?_
  refine aw_getIn (kz := 2) dX5_undo_4 flX5_103 rfl rfl rfl ?_
  rw [hR.2.2.1]
  refine aw_if_ne (tg := 15) dX5_undo_7 (by decide) (by omega) (fun h7 => ?_) (fun h7 => ?_)
  · refine aw_aload_n dX5_undo_15 rfl ?_
    refine aw_getR dX5_undo_16 flX5_19 rfl rfl ?_
    refine aw_aload_n dX5_undo_19 rfl ?_
    refine aw_getR dX5_undo_20 flX5_10 rfl rfl ?_
    refine aw_V1 dX5_undo_23 okX1_takeBack lkX5_109 rfl rfl rfl ?_
    have hb := hR.back hV (by omega)
    refine tX1_takeBack _ hR.2.1 (by rw [hR.2.2.1]; omega) ?_
    rw [hR.2.2.1]
    rw [hR.2.2.1] at hb
    refine aw_iret dX5_undo_26 rfl ?_
    exact h1 (by omega) _ hb.1 hb.2
  · refine aw_aload_n dX5_undo_10 rfl ?_
    refine aw_V0 dX5_undo_11 okX5_refuseNo lkX5_106 rfl rfl rfl ?_
    refine zX5_refuseNo _ hR hV (fun g2 r2 m2 => ?_)
    refine aw_iret dX5_undo_14 rfl ?_
    exact h2 (by omega) g2 r2 m2
theorem tX5_sortStyles (d : Nat) {B : Int} {Z : zZ} {g : sp_G} {Q : sp_P} (hR : cRep g Z) (hV : zV B Z) (hQ : ∀ g2 : sp_G, sp_fr [39, 40, 41, 42] g g2 → stH g2 (ky (zo (zt Z)) (zd (zt Z))) → Q none g2) : sp_Met (d + 3) mX5_sortStyles [v_r 0] g Q := by
  refine sp_of (L := [_]) (by decide) (Nat.le_of_ble_eq_true rfl) rfl rfl ?_
  have hon : g 1 3 = (zo (zt Z)) := hR.1.2.2.2
  refine aw_aload_n dX5_sortStyles_0 rfl ?_
  refine aw_getR dX5_sortStyles_1 flX5_26 rfl rfl ?_
  refine aw_aload_n dX5_sortStyles_4 rfl ?_
  refine aw_getR dX5_sortStyles_5 flX5_10 rfl rfl ?_
  refine aw_aload_n dX5_sortStyles_8 rfl ?_
  refine aw_getR dX5_sortStyles_9 flX5_10 rfl rfl ?_
  refine aw_getIn (kz := 3) dX5_sortStyles_12 flX5_162 rfl rfl rfl ?_
  rw [hon]
  refine aw_V2 dX5_sortStyles_15 okX3_sortBlocks lkX5_173 rfl rfl rfl ?_
  refine tX3_sortBlocks d hV.1.2.1 (fun l l0 l1 => bt_01 hV.1.2.2.2 ⟨l0, l1⟩) hR.1.2.1 (fun g2 hf hs => ?_)
  refine aw_vret dX5_sortStyles_18 rfl ?_
  exact hQ g2 hf hs
theorem st_b (kk : Int → Int) : (1 ≤ sc kk 24 ∧ sc kk 24 ≤ 24) ∧ (∀ s, 0 ≤ s → s < sc kk 24 → 0 ≤ sf kk 24 s ∧ sf kk 24 s < 24) ∧ (∀ a, 0 ≤ a → a < 24 → 0 ≤ sy kk 24 a ∧ sy kk 24 a < 24) := by
  obtain ⟨⟨p1, p2, p3⟩, p4, p5, p6⟩ := st_p (kk := kk) (a := 24) (by omega)
  have := p3 (by omega)
  exact ⟨by omega, p4, fun a a0 a1 => by have := p5 a a0 a1; omega⟩
theorem tX5_isStyle (d : Nat) {B : Int} {Z : zZ} {s : Int} {g : sp_G} {Q : sp_P} (hR : cRep g Z) (hV : zV B Z) (hs : (-2147483648 ≤ s ∧ s < 2147483648)) (hQ : ∀ g2 : sp_G, sp_fr [39, 40, 41, 42] g g2 → stH g2 (ky (zo (zt Z)) (zd (zt Z))) → Q (some (v_i (sp_bl (0 ≤ s ∧ s ≤ (sc (ky (zo (zt Z)) (zd (zt Z))) 24) - 1)))) g2) : sp_Met (d + 4) mX5_isStyle [v_r 0, v_i s] g Q := by
  refine sp_of (L := [_, _]) (by decide) (Nat.le_of_ble_eq_true rfl) rfl rfl ?_
  have hb := (st_b (ky (zo (zt Z)) (zd (zt Z)))).1
  refine aw_aload_n dX5_isStyle_0 rfl ?_
  refine aw_V0 dX5_isStyle_1 okX5_sortStyles lkX5_117 rfl rfl rfl ?_
  refine tX5_sortStyles _ hR hV (fun g2 hf hst => ?_)
  refine aw_iload_n dX5_isStyle_4 rfl ?_
  refine aw_iconst dX5_isStyle_5 ?_
  refine aw_aload_n dX5_isStyle_6 rfl ?_
  refine aw_getR dX5_isStyle_7 flX5_26 rfl rfl ?_
  refine aw_getIn (kz := 5) dX5_isStyle_10 flX5_148 rfl rfl rfl ?_
  rw [hst.1]
  refine aw_iconst dX5_isStyle_13 ?_
  refine aw_isub dX5_isStyle_14 ?_
  refine aw_S3 dX5_isStyle_15 okX5_within lkX5_58 rfl ?_
  refine tX5_within _ (by omega) ?_
  refine aw_zret dX5_isStyle_18 rfl (p_bl _) ?_
  exact hQ g2 hf hst
