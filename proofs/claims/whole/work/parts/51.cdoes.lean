def oR (g : sp_G) (x : Int → Int) (N : Int) (j : Nat) : Prop := ∀ i : Nat, i < j → g 51 (5 * (i : Int)) = oWd x N (sk x N (gP x N i)) ∧ ∀ k : Nat, k < kN (oWd x N (sk x N (gP x N i))) → g 51 (5 * (i : Int) + 1 + k) = nX x N (sk x N (gP x N i)) (oWd x N (sk x N (gP x N i))) k
theorem lX2_readOrders (d : Nat) {B : Int} {Z : zZ} {g0 : sp_G} {Q : sp_P} (hR : cRep g0 Z) (hV : zV B Z) (hQ1 : ∀ n : Nat, sOK (zx Z) (zl Z) n → ∀ g2 : sp_G, scS g0 g2 → g2 49 3 = n → oR g2 (zx Z) (zl Z) n → Q (some (v_i (-1))) g2) (hQ0 : ∀ f, sF (zx Z) (zl Z) f → ∀ g2 : sp_G, scS g0 g2 → Q (some (v_i f)) g2) :
    ∀ (n j : Nat) (x : Option sp_V) (g : sp_G), j + n = 31 → j < 30 → gB (zx Z) (zl Z) j → (∀ i : Nat, 1 ≤ i → i ≤ j → sk (zx Z) (zl Z) (gP (zx Z) (zl Z) i) < (zl Z)) → scS g0 g → g 49 3 = j → pc g (zx Z) (zl Z) (sk (zx Z) (zl Z) (gP (zx Z) (zl Z) j)) → oR g (zx Z) (zl Z) j → sp_AW mX2_readOrders (d + 7) 14 [some (v_r 49), x] [] g Q := by
  have hx := zV_x hV
  intro n
  induction n with
  | zero =>
    intro j x g hn h30
    omega
  | succ n ih =>
    intro j x g hn h30 hg hb hs e3 hp ho
    have g9 := gP_30 hV hg
    refine aw_aload_n dX2_readOrders_14 rfl ?_
    refine aw_V0 dX2_readOrders_15 okX2_readOrder lkX2_42 rfl rfl rfl ?_
    refine zX2_readOrder _ (hR.sc hs.f) hV (q := (sk (zx Z) (zl Z) (gP (zx Z) (zl Z) j))) (c := j) (by omega) (by omega) e3 hp (fun hw g2 s2 c2 b2 old2 w2 n2 => ?_) (fun hw g2 s2 => ?_)
    · have g10 := gP_30 hV (j := j + 1) ⟨hg, hw⟩
      have s3 := hs.tr s2
      have s4 : scS g0 (sp_up g2 49 3 (g2 49 3 + 1)) := ⟨s3.1.up (by decide), by rw [sp_up_i _ _ _ _ (by decide)]; exact s3.2⟩
      have ho4 : oR g2 (zx Z) (zl Z) (j + 1) := fun i hi => by
        by_cases c9 : i = j
        · rw [c9]; exact ⟨w2, n2⟩
        · have h1 := ho i (by omega)
          exact ⟨by rw [old2 _ (by omega)]; exact h1.1, fun k hk => by have := kN_b (oWd (zx Z) (zl Z) (sk (zx Z) (zl Z) (gP (zx Z) (zl Z) i))); rw [old2 _ (by omega)]; exact h1.2 k hk⟩
      refine aw_istore_n (L2 := [_, _]) dX2_readOrders_18 (by decide) rfl rfl ?_
      refine aw_iload_n dX2_readOrders_19 rfl ?_
      refine aw_iconst dX2_readOrders_20 ?_
      refine aw_icmp_eq (tg := 26) dX2_readOrders_21 (by decide) (by omega) (fun h21 => ?_) (fun h21 => absurd h21 (by omega))
      refine aw_aload_n dX2_readOrders_26 rfl ?_
      refine aw_dup dX2_readOrders_27 rfl ?_
      refine aw_getI (kz := 3) dX2_readOrders_28 flX2_23 rfl rfl rfl ?_
      refine aw_iconst dX2_readOrders_31 ?_
      refine aw_iadd dX2_readOrders_32 ?_
      refine aw_putI (kz := 3) dX2_readOrders_33 flX2_23 fi_2_3 rfl rfl rfl  ?_
      refine aw_aload_n dX2_readOrders_36 rfl ?_
      refine aw_V0 dX2_readOrders_37 okX2_readPiece lkX2_39 rfl rfl rfl ?_
      refine zX2_readPiece _ (hR.sc s4.f) hV (p := gP (zx Z) (zl Z) (j + 1)) (by rw [sp_up_i _ _ _ _ (by decide)]; exact b2) (by omega) (fun g5 f5 p5 => ?_)
      have s5 := s4.tr f5.s
      have kb := kd_b (zx Z) (zl Z) (sk (zx Z) (zl Z) (gP (zx Z) (zl Z) (j + 1)))
      have e35 : g5 49 3 = ((j + 1 : Nat) : Int) := by rw [f5.2.2, sp_up_s, c2]; omega
      have ho5 : oR g5 (zx Z) (zl Z) (j + 1) := fun i hi => by
        have h1 := ho4 i hi
        exact ⟨by rw [f5.1 51 (by decide), sp_up_o _ _ _ _ (by decide)]; exact h1.1, fun k hk => by rw [f5.1 51 (by decide), sp_up_o _ _ _ _ (by decide)]; exact h1.2 k hk⟩
      have fin : ¬ sk (zx Z) (zl Z) (gP (zx Z) (zl Z) (j + 1)) < (zl Z) → Q (some (v_i (-1))) g5 := fun c9 => hQ1 (j + 1) ⟨by omega, ⟨hg, hw⟩, fun i i0 i1 => hb i i0 (by omega), c9⟩ g5 s5 e35 ho5
      refine aw_aload_n dX2_readOrders_40 rfl ?_
      refine aw_getI (kz := 4) dX2_readOrders_41 flX2_26 rfl rfl rfl ?_
      rw [p5.2.1]
      refine aw_if_eq (tg := 56) dX2_readOrders_44 (by decide) (by omega) (fun h44 => ?_) (fun h44 => ?_)
      · refine aw_iconst dX2_readOrders_56 ?_
        refine aw_iret dX2_readOrders_57 rfl ?_
        exact fin (kd_3.2.2.1 h44)
      · refine aw_aload_n dX2_readOrders_47 rfl ?_
        refine aw_getI (kz := 3) dX2_readOrders_48 flX2_23 rfl rfl rfl ?_
        refine aw_bipush dX2_readOrders_51 (by decide) ?_
        rw [e35]
        refine aw_icmp_lt (tg := 14) dX2_readOrders_53 (by decide) (by omega) (fun h53 => ?_) (fun h53 => ?_)
        · have hlt : sk (zx Z) (zl Z) (gP (zx Z) (zl Z) (j + 1)) < (zl Z) := by
            by_cases c9 : sk (zx Z) (zl Z) (gP (zx Z) (zl Z) (j + 1)) < (zl Z)
            · exact c9
            · exact absurd (kd_3.2.2.2 c9) h44
          refine ih (j + 1) _ g5 (by omega) (by omega) ⟨hg, hw⟩ (fun i i0 i1 => ?_) s5 e35 p5 ho5
          by_cases c9 : i = j + 1
          · rw [c9]; exact hlt
          · exact hb i i0 (by omega)
        · refine aw_iconst dX2_readOrders_56 ?_
          refine aw_iret dX2_readOrders_57 rfl ?_
          exact fin (by omega)
    · have hsf : sF (zx Z) (zl Z) (oEn (zx Z) (zl Z) (sk (zx Z) (zl Z) (gP (zx Z) (zl Z) j))) := ⟨j, hg, hb, hw, rfl⟩
      have hfb := sF_b hx.1 hsf
      refine aw_istore_n (L2 := [_, _]) dX2_readOrders_18 (by decide) rfl rfl ?_
      refine aw_iload_n dX2_readOrders_19 rfl ?_
      refine aw_iconst dX2_readOrders_20 ?_
      refine aw_icmp_eq (tg := 26) dX2_readOrders_21 (by decide) (by omega) (fun h21 => absurd h21 (by omega)) (fun h21 => ?_)
      refine aw_iload_n dX2_readOrders_24 rfl ?_
      refine aw_iret dX2_readOrders_25 rfl ?_
      exact hQ0 _ hsf g2 (hs.tr s2)
theorem zX2_readOrders (d : Nat) {B : Int} {Z : zZ} {g : sp_G} {Q : sp_P} (hR : cRep g Z) (hV : zV B Z) (hQ1 : ∀ n : Nat, sOK (zx Z) (zl Z) n → ∀ g2 : sp_G, scS g g2 → g2 49 3 = n → oR g2 (zx Z) (zl Z) n → Q (some (v_i (-1))) g2) (hQ0 : ∀ f, sF (zx Z) (zl Z) f → ∀ g2 : sp_G, scS g g2 → Q (some (v_i f)) g2) : sp_Met (d + 7) mX2_readOrders [v_r 49] g Q := by
  have hx := zV_x hV
  have s1 : scS g (sp_up (sp_up g 49 3 0) 49 6 0) := ⟨(sp_fr.rf.up (by decide)).up (by decide), by rw [sp_up_i _ _ _ _ (by decide), sp_up_i _ _ _ _ (by decide)]⟩
  refine sp_of (L := [_, _]) (by decide) (Nat.le_of_ble_eq_true rfl) rfl rfl ?_
  refine aw_aload_n dX2_readOrders_0 rfl ?_
  refine aw_iconst dX2_readOrders_1 ?_
  refine aw_putI (kz := 3) dX2_readOrders_2 flX2_23 fi_2_3 rfl rfl rfl  ?_
  refine aw_aload_n dX2_readOrders_5 rfl ?_
  refine aw_iconst dX2_readOrders_6 ?_
  refine aw_putI (kz := 6) dX2_readOrders_7 flX2_32 fi_2_6 rfl rfl rfl  ?_
  refine aw_aload_n dX2_readOrders_10 rfl ?_
  refine aw_V0 dX2_readOrders_11 okX2_readPiece lkX2_39 rfl rfl rfl ?_
  refine zX2_readPiece _ (hR.sc s1.f) hV (p := 0) (sp_up_s _ _ _ _) (by omega) (fun g5 f5 p5 => ?_)
  exact lX2_readOrders _ hR hV hQ1 hQ0 31 0 _ g5 (by omega) (by omega) trivial (fun i i0 i1 => by omega) (s1.tr f5.s) (by rw [f5.2.2, sp_up_i _ _ _ _ (by decide), sp_up_s]; rfl) p5 (fun i hi => absurd hi (by omega))
theorem aX4_switch (d : Nat) {B : Int} {Z : zZ} {l to : Int} {g : sp_G} {Q : sp_P} (hR : cRep g Z) (hV : zV B Z) (hl : 0 ≤ l ∧ l ≤ 3) (ht : 0 ≤ to ∧ to ≤ 1) (hQ : ∀ (v : Int) (g2 : sp_G), cRep g2 (zw ((zp (zt Z)), (zd (zt Z)), (zm (zt Z)), sw (zo (zt Z)) l to) Z) → sp_fr [1, 2, 3, 4] g g2 → Q (some (v_i v)) g2) : sp_Met d mX4_switchLayer [v_r 1, v_i l, v_i to] g Q := by
  have hon : g 1 3 = (zo (zt Z)) := hR.1.2.2.2
  have hb := bt_01 (on := (zo (zt Z))) (l := l) hV.1.2.2.2 (by omega)
  refine tX4_switchLayer d (by rw [hon]; exact hb) ht ?_
  rw [hon]
  refine hQ _ _ (hR.town (sp_fr.rf.up (by decide)) ⟨hR.1.1.ne (by decide), hR.1.2.1.ne (by decide), hR.1.2.2.1.ne (by decide), sp_up_s _ _ _ _⟩) (sp_fr.rf.up (by decide))
theorem aX4_names (d : Nat) {B : Int} {Z : zZ} {l e n : Int} {g : sp_G} {Q : sp_P} (hR : cRep g Z) (hV : zV B Z) (hl : 0 ≤ l ∧ l ≤ 3) (he : 0 ≤ e ∧ e ≤ 5) (hQ : ∀ (v : Int) (g2 : sp_G), cRep g2 (zw ((zp (zt Z)), (zd (zt Z)), up1 (zm (zt Z)) (l * 6 + e) n, (zo (zt Z))) Z) → sp_fr [1, 2, 3, 4] g g2 → Q (some (v_i v)) g2) : sp_Met d mX4_setNames [v_r 1, v_i l, v_i e, v_i n] g Q := by
  refine tX4_setNames d (by omega) ?_
  refine hQ _ _ (hR.town (sp_fr.rf.up (by decide)) ⟨hR.1.1.ne (by decide), hR.1.2.1.ne (by decide), hR.1.2.2.1.up (i := l * 6 + e) (by omega), ?_⟩) (sp_fr.rf.up (by decide))
  rw [sp_up_o _ _ _ _ (by decide)]; exact hR.1.2.2.2
theorem aX4_voters (d : Nat) {B : Int} {Z : zZ} {a n : Int} {g : sp_G} {Q : sp_P} (hR : cRep g Z) (hV : zV B Z) (ha : 0 ≤ a ∧ a ≤ 23) (hQ : ∀ (v : Int) (g2 : sp_G), cRep g2 (zw (up1 (zp (zt Z)) a n, (zd (zt Z)), (zm (zt Z)), (zo (zt Z))) Z) → sp_fr [1, 2, 3, 4] g g2 → Q (some (v_i v)) g2) : sp_Met d mX4_setVoters [v_r 1, v_i a, v_i n] g Q := by
  refine tX4_setVoters d (by omega) ?_
  refine hQ _ _ (hR.town (sp_fr.rf.up (by decide)) ⟨hR.1.1.up (i := a) (by omega), hR.1.2.1.ne (by decide), hR.1.2.2.1.ne (by decide), ?_⟩) (sp_fr.rf.up (by decide))
  rw [sp_up_o _ _ _ _ (by decide)]; exact hR.1.2.2.2
theorem aX4_put (d : Nat) {B : Int} {Z : zZ} {l e a b : Int} {g : sp_G} {Q : sp_P} (hR : cRep g Z) (hV : zV B Z) (hl : 0 ≤ l ∧ l ≤ 3) (he : 0 ≤ e ∧ e ≤ 5) (ha : 0 ≤ a ∧ a ≤ 23) (hb : 0 ≤ b ∧ b ≤ 23) (hab : a / 4 ≤ b / 4 ∧ a % 4 ≤ b % 4) (hQ : ∀ (v : Int) (g2 : sp_G), cRep g2 (zw ((zp (zt Z)), pr_D l e a b (zd (zt Z)) 24, (zm (zt Z)), (zo (zt Z))) Z) → sp_fr [1, 2, 3, 4] g g2 → Q (some (v_i v)) g2) : sp_Met (d + 1) mX4_putRectangle [v_r 1, v_i l, v_i e, v_i a, v_i b] g Q := by
  refine tX4_putRectangle d hl he ha hb hV.1.2.1 hab hR.1.2.1 (fun many g2 hI => ?_)
  obtain ⟨i1, i2, i3, i4⟩ := hI
  exact hQ _ g2 (hR.town (i2.wk (by decide)) ⟨hR.1.1.fr i2 (by decide), i3, hR.1.2.2.1.fr i2 (by decide), by rw [i2 1 (by decide)]; exact hR.1.2.2.2⟩) (i2.wk (by decide))
theorem aX1_keep (d : Nat) {B : Int} {Z : zZ} {g : sp_G} {Q : sp_P} (hR : cRep g Z) (hV : zV B Z) (hQ : ∀ (r : Nat) (g2 : sp_G), cRep g2 (zk Z) → (∀ p, 39 ≤ p → ∀ j, g2 p j = g p j) → Q (some (v_r r)) g2) : sp_Met (d + 2) mX1_keep [v_r 5, v_r 1] g Q := by
  have hk := hR.keep hV
  have hc := hV.2.1
  have h5 := hR.2.1
  exact tX1_keep d hR.2.1 (by rw [hR.2.2.1]; exact hc) (hQ _ (kpG g) hk.1 (fun p hp j => kp_fr (by omega) (by omega)))
theorem zX2_carryOut (d : Nat) {B : Int} {Z : zZ} {i w a b c e : Int} {g : sp_G} {Q : sp_P} (hR : cRep g Z) (hV : zV B Z) (hi : 0 ≤ i ∧ i < 30) (hc : nC w a b c e) (e0 : g 51 (i * 5) = w) (e1 : g 51 (i * 5 + 1) = a) (e2 : 2 ≤ w → g 51 (i * 5 + 2) = b) (e3 : w = 2 ∨ w = 3 → g 51 (i * 5 + 3) = c) (e4 : w = 2 → g 51 (i * 5 + 4) = e) (hQ : ∀ g2 : sp_G, cRep g2 (zO Z w a b c e) → sp_fr [1, 2, 3, 4] g g2 → Q none g2) : sp_Met (d + 2) mX2_carryOut [v_r 49, v_i i, v_r 1] g Q := by
  obtain ⟨h0, h1, h2, h3, h4, h5⟩ := hc
  refine sp_of (L := [_, _, _, _, _, _]) (by decide) (Nat.le_of_ble_eq_true rfl) rfl rfl ?_
  refine aw_iload_n dX2_carryOut_0 rfl ?_
  refine aw_iconst dX2_carryOut_1 ?_
  refine aw_imul dX2_carryOut_2 ?_
  refine aw_istore_n (L2 := [_, _, _, _, _, _]) dX2_carryOut_3 (by decide) rfl rfl ?_
  refine aw_aload_n dX2_carryOut_4 rfl ?_
  refine aw_getR dX2_carryOut_5 flX2_19 rfl rfl ?_
  refine aw_iload_n dX2_carryOut_8 rfl ?_
  refine aw_iconst dX2_carryOut_9 ?_
  refine aw_iadd dX2_carryOut_10 ?_
  refine aw_iald dX2_carryOut_11 rfl (by omega) ?_
  refine aw_istore (L2 := [_, _, _, _, _, _]) dX2_carryOut_12 (by decide) rfl rfl ?_
  refine aw_aload_n dX2_carryOut_14 rfl ?_
  refine aw_getR dX2_carryOut_15 flX2_19 rfl rfl ?_
  refine aw_iload_n dX2_carryOut_18 rfl ?_
  refine aw_iconst dX2_carryOut_19 ?_
  refine aw_iadd dX2_carryOut_20 ?_
  refine aw_iald dX2_carryOut_21 rfl (by omega) ?_
  refine aw_istore (L2 := [_, _, _, _, _, _]) dX2_carryOut_22 (by decide) rfl rfl ?_
  refine aw_aload_n dX2_carryOut_24 rfl ?_
  refine aw_getR dX2_carryOut_25 flX2_19 rfl rfl ?_
  refine aw_iload_n dX2_carryOut_28 rfl ?_
  refine aw_iald dX2_carryOut_29 rfl (by omega) ?_
  rw [e0]
  rcases (show w = 0 ∨ w = 1 ∨ w = 2 ∨ w = 3 ∨ w = 4 by omega) with c9 | c9 | c9 | c9 | c9
  · subst c9
    rw [e1]
    refine aw_tin (tg := 60) dX2_carryOut_30 (by omega) (by omega) rfl (by decide) ?_
    refine aw_aload_n dX2_carryOut_60 rfl ?_
    refine aw_iload dX2_carryOut_61 rfl ?_
    refine aw_iconst dX2_carryOut_63 ?_
    refine aw_V2 dX2_carryOut_64 okX4_switchLayer lkX2_105 rfl rfl rfl ?_
    refine aX4_switch _ hR hV (h1 (by omega)) (by omega) (fun v g2 r2 f2 => ?_)
    refine aw_pop dX2_carryOut_67 rfl ?_
    refine aw_goto (tg := 139) dX2_carryOut_68 (by decide) ?_
    refine aw_vret dX2_carryOut_139 rfl ?_
    exact hQ g2 r2 f2
  · subst c9
    rw [e1]
    refine aw_tin (tg := 71) dX2_carryOut_30 (by omega) (by omega) rfl (by decide) ?_
    refine aw_aload_n dX2_carryOut_71 rfl ?_
    refine aw_iload dX2_carryOut_72 rfl ?_
    refine aw_iconst dX2_carryOut_74 ?_
    refine aw_V2 dX2_carryOut_75 okX4_switchLayer lkX2_105 rfl rfl rfl ?_
    refine aX4_switch _ hR hV (h1 (by omega)) (by omega) (fun v g2 r2 f2 => ?_)
    refine aw_pop dX2_carryOut_78 rfl ?_
    refine aw_goto (tg := 139) dX2_carryOut_79 (by decide) ?_
    refine aw_vret dX2_carryOut_139 rfl ?_
    exact hQ g2 r2 f2
  · subst c9
    rw [e1, e2 (by omega)]
    refine aw_tin (tg := 82) dX2_carryOut_30 (by omega) (by omega) rfl (by decide) ?_
    refine aw_aload_n dX2_carryOut_82 rfl ?_
    refine aw_iload dX2_carryOut_83 rfl ?_
    refine aw_iload dX2_carryOut_85 rfl ?_
    refine aw_aload_n dX2_carryOut_87 rfl ?_
    refine aw_getR dX2_carryOut_88 flX2_19 rfl rfl ?_
    refine aw_iload_n dX2_carryOut_91 rfl ?_
    refine aw_iconst dX2_carryOut_92 ?_
    refine aw_iadd dX2_carryOut_93 ?_
    refine aw_iald dX2_carryOut_94 rfl (by omega) ?_
    rw [e3 (by omega)]
    refine aw_aload_n dX2_carryOut_95 rfl ?_
    refine aw_getR dX2_carryOut_96 flX2_19 rfl rfl ?_
    refine aw_iload_n dX2_carryOut_99 rfl ?_
    refine aw_iconst dX2_carryOut_100 ?_
    refine aw_iadd dX2_carryOut_101 ?_
    refine aw_iald dX2_carryOut_102 rfl (by omega) ?_
    rw [e4 rfl]
    refine aw_V4 dX2_carryOut_103 okX4_putRectangle lkX2_111 rfl rfl rfl ?_
    refine aX4_put _ hR hV (h1 (by omega)) (h2 (by omega)) (h3 rfl).1 (h3 rfl).2.1 (h3 rfl).2.2 (fun v g2 r2 f2 => ?_)
    refine aw_pop dX2_carryOut_106 rfl ?_
    refine aw_goto (tg := 139) dX2_carryOut_107 (by decide) ?_
    refine aw_vret dX2_carryOut_139 rfl ?_
    exact hQ g2 r2 f2
  · subst c9
    rw [e1, e2 (by omega)]
    refine aw_tin (tg := 110) dX2_carryOut_30 (by omega) (by omega) rfl (by decide) ?_
    refine aw_aload_n dX2_carryOut_110 rfl ?_
    refine aw_iload dX2_carryOut_111 rfl ?_
    refine aw_iload dX2_carryOut_113 rfl ?_
    refine aw_aload_n dX2_carryOut_115 rfl ?_
    refine aw_getR dX2_carryOut_116 flX2_19 rfl rfl ?_
    refine aw_iload_n dX2_carryOut_119 rfl ?_
    refine aw_iconst dX2_carryOut_120 ?_
    refine aw_iadd dX2_carryOut_121 ?_
    refine aw_iald dX2_carryOut_122 rfl (by omega) ?_
    rw [e3 (by omega)]
    refine aw_V3 dX2_carryOut_123 okX4_setNames lkX2_115 rfl rfl rfl ?_
    refine aX4_names _ hR hV (h1 (by omega)) (h2 (by omega)) (fun v g2 r2 f2 => ?_)
    refine aw_pop dX2_carryOut_126 rfl ?_
    refine aw_goto (tg := 139) dX2_carryOut_127 (by decide) ?_
    refine aw_vret dX2_carryOut_139 rfl ?_
    exact hQ g2 r2 f2
  · subst c9
    rw [e1, e2 (by omega)]
    refine aw_tout (tg := 130) dX2_carryOut_30 (by omega) (by omega) (by decide) ?_
    refine aw_aload_n dX2_carryOut_130 rfl ?_
    refine aw_iload dX2_carryOut_131 rfl ?_
    refine aw_iload dX2_carryOut_133 rfl ?_
    refine aw_V2 dX2_carryOut_135 okX4_setVoters lkX2_119 rfl rfl rfl ?_
    refine aX4_voters _ hR hV (h5 rfl).1 (fun v g2 r2 f2 => ?_)
    refine aw_pop dX2_carryOut_138 rfl ?_
    refine aw_vret dX2_carryOut_139 rfl ?_
    exact hQ g2 r2 f2
theorem lX5_does (d : Nat) {B : Int} {Z : zZ} {n0 : Nat} {x1 : Int} {g0 : sp_G} {Q : sp_P} (hV : zV B Z) (hok : sOK (zx Z) (zl Z) n0) (hQ : ∀ g2 : sp_G, cRep g2 (zD Z n0) → fMo g0 g2 → Q (some (v_i n0)) g2) :
    ∀ (n j : Nat) (m : Int) (g : sp_G), j + n = n0 → m = j → cRep g (zD Z j) → fMo g0 g → g 49 3 = n0 → oR g (zx Z) (zl Z) n0 → sp_AW mX5_does (d + 8) 32 [some (v_r 0), some (v_i x1), some (v_i m)] [] g Q := by
  have n30 := sOK_b (zV_x hV).1 hok
  intro n
  induction n with
  | zero =>
    intro j m g hn em hR hm e3 ho
    have ej : j = n0 := by omega
    refine aw_iload_n dX5_does_32 rfl ?_
    refine aw_aload_n dX5_does_33 rfl ?_
    refine aw_getR dX5_does_34 flX5_40 rfl rfl ?_
    refine aw_getIn (kz := 3) dX5_does_37 flX5_143 rfl rfl rfl ?_
    rw [e3]
    refine aw_icmp_ge (tg := 61) dX5_does_40 (by decide) (by omega) (fun h40 => ?_) (fun h40 => absurd h40 (by omega))
    refine aw_aload_n dX5_does_61 rfl ?_
    refine aw_getR dX5_does_62 flX5_40 rfl rfl ?_
    refine aw_getIn (kz := 3) dX5_does_65 flX5_143 rfl rfl rfl ?_
    refine aw_iret dX5_does_68 rfl ?_
    rw [e3]
    rw [ej] at hR
    exact hQ g hR hm
  | succ n ih =>
    intro j m g hn em hR hm e3 ho
    have hgm : gB (zx Z) (zl Z) (j + 1) := by
      have key : ∀ k : Nat, gB (zx Z) (zl Z) k → ∀ i : Nat, i ≤ k → gB (zx Z) (zl Z) i := by
        intro k
        induction k with
        | zero => intro h i hi; rw [show i = 0 by omega]; exact h
        | succ k ihk =>
          intro h i hi
          by_cases c9 : i = k + 1
          · rw [c9]; exact h
          · exact ihk h.1 i (by omega)
      exact key n0 hok.2.1 (j + 1) (by omega)
    have hVj := zD_V hV j hgm.1
    obtain ⟨a1, a2, a3, a4, a5, a6⟩ := o_w hgm.2
    have hcn := nB_c a2 a4
    have hoj := ho j (by omega)
    have k1 := kN_b (oWd (zx Z) (zl Z) (sk (zx Z) (zl Z) (gP (zx Z) (zl Z) j)))
    have k2 : 2 ≤ oWd (zx Z) (zl Z) (sk (zx Z) (zl Z) (gP (zx Z) (zl Z) j)) → 2 ≤ kN (oWd (zx Z) (zl Z) (sk (zx Z) (zl Z) (gP (zx Z) (zl Z) j))) := fun c => by unfold kN; rw [if_neg (by omega), if_neg (by omega)]; split <;> (try split) <;> omega
    have k3 : oWd (zx Z) (zl Z) (sk (zx Z) (zl Z) (gP (zx Z) (zl Z) j)) = 2 ∨ oWd (zx Z) (zl Z) (sk (zx Z) (zl Z) (gP (zx Z) (zl Z) j)) = 3 → 3 ≤ kN (oWd (zx Z) (zl Z) (sk (zx Z) (zl Z) (gP (zx Z) (zl Z) j))) := fun c => by rcases c with c | c <;> rw [c] <;> decide
    have k4 : oWd (zx Z) (zl Z) (sk (zx Z) (zl Z) (gP (zx Z) (zl Z) j)) = 2 → 4 ≤ kN (oWd (zx Z) (zl Z) (sk (zx Z) (zl Z) (gP (zx Z) (zl Z) j))) := fun c => by rw [c]; decide
    have kk : ∀ (k : Nat) (y : Int), y = 1 + k → k < kN (oWd (zx Z) (zl Z) (sk (zx Z) (zl Z) (gP (zx Z) (zl Z) j))) → g 51 (m * 5 + y) = nX (zx Z) (zl Z) (sk (zx Z) (zl Z) (gP (zx Z) (zl Z) j)) (oWd (zx Z) (zl Z) (sk (zx Z) (zl Z) (gP (zx Z) (zl Z) j))) k := fun k y ey hk => by rw [← hoj.2 k hk]; congr 1; omega
    refine aw_iload_n dX5_does_32 rfl ?_
    refine aw_aload_n dX5_does_33 rfl ?_
    refine aw_getR dX5_does_34 flX5_40 rfl rfl ?_
    refine aw_getIn (kz := 3) dX5_does_37 flX5_143 rfl rfl rfl ?_
    rw [e3]
    refine aw_icmp_ge (tg := 61) dX5_does_40 (by decide) (by omega) (fun h40 => absurd h40 (by omega)) (fun h40 => ?_)
    refine aw_aload_n dX5_does_43 rfl ?_
    refine aw_getR dX5_does_44 flX5_40 rfl rfl ?_
    refine aw_iload_n dX5_does_47 rfl ?_
    refine aw_aload_n dX5_does_48 rfl ?_
    refine aw_getR dX5_does_49 flX5_10 rfl rfl ?_
    refine aw_V2 dX5_does_52 okX2_carryOut lkX5_144 rfl rfl rfl ?_
    refine zX2_carryOut _ hR hVj (by omega) hcn (by rw [← hoj.1]; congr 1; omega) (kk 0 1 (by omega) (by omega)) (fun c => kk 1 2 (by omega) (k2 c)) (fun c => kk 2 3 (by omega) (k3 c)) (fun c => kk 3 4 (by omega) (k4 c)) (fun g2 r2 f2 => ?_)
    refine aw_iinc (L2 := [_, _, _]) dX5_does_55 rfl (by decide) rfl rfl ?_
    refine aw_goto (tg := 32) dX5_does_58 (by decide) ?_
    exact ih (j + 1) _ g2 (by omega) (by omega) r2 (hm.tr (fMo.fr f2 (by decide))) (by rw [f2 49 (by decide)]; exact e3) (fun i hi => ⟨by rw [f2 51 (by decide)]; exact (ho i hi).1, fun k hk => by rw [f2 51 (by decide)]; exact (ho i hi).2 k hk⟩)
theorem qX5_does (d : Nat) {B : Int} {Z : zZ} {g : sp_G} {Q : sp_P} (hR : cRep g Z) (hV : zV B Z) (hQ1 : ∀ n : Nat, sOK (zx Z) (zl Z) n → ∀ g2 : sp_G, cRep g2 (zD Z n) → fMo g g2 → Q (some (v_i n)) g2) (hQ0 : ∀ f, sF (zx Z) (zl Z) f → ∀ g2 : sp_G, cRep g2 Z → fMo g g2 → Q (some (v_i (-10 - f))) g2) : sp_Met (d + 8) mX5_does [v_r 0] g Q := by
  have hx := zV_x hV
  refine sp_of (L := [_, _, _]) (by decide) (Nat.le_of_ble_eq_true rfl) rfl rfl ?_
  refine aw_aload_n dX5_does_0 rfl ?_
  refine aw_getR dX5_does_1 flX5_40 rfl rfl ?_
  refine aw_V0 dX5_does_4 okX2_readOrders lkX5_140 rfl rfl rfl ?_
  refine zX2_readOrders _ hR hV (fun n hn g1 s1 c1 o1 => ?_) (fun f hf g1 s1 => ?_)
  · refine aw_istore_n (L2 := [_, _, _]) dX5_does_7 (by decide) rfl rfl ?_
    refine aw_iload_n dX5_does_8 rfl ?_
    refine aw_iconst dX5_does_9 ?_
    refine aw_icmp_eq (tg := 18) dX5_does_10 (by decide) (by omega) (fun h10 => ?_) (fun h10 => absurd h10 (by omega))
    refine aw_aload_n dX5_does_18 rfl ?_
    refine aw_getR dX5_does_19 flX5_19 rfl rfl ?_
    refine aw_aload_n dX5_does_22 rfl ?_
    refine aw_getR dX5_does_23 flX5_10 rfl rfl ?_
    refine aw_V1 dX5_does_26 okX1_keep lkX5_66 rfl rfl rfl ?_
    refine aX1_keep _ (hR.sc s1.f) hV (fun r g2 r2 f2 => ?_)
    refine aw_pop dX5_does_29 rfl ?_
    refine aw_iconst dX5_does_30 ?_
    refine aw_istore_n (L2 := [_, _, _]) dX5_does_31 (by decide) rfl rfl ?_
    exact lX5_does _ hV hn (fun g3 r3 m3 => hQ1 n hn g3 r3 m3) n 0 _ g2 (by omega) rfl r2 (s1.f.m.tr (fun p hp j => f2 p (by omega) j)) (by rw [f2 49 (by decide)]; exact c1) (fun i hi => ⟨by rw [f2 51 (by decide)]; exact (o1 i hi).1, fun k hk => by rw [f2 51 (by decide)]; exact (o1 i hi).2 k hk⟩)
  · have hfb := sF_b hx.1 hf
    refine aw_istore_n (L2 := [_, _, _]) dX5_does_7 (by decide) rfl rfl ?_
    refine aw_iload_n dX5_does_8 rfl ?_
    refine aw_iconst dX5_does_9 ?_
    refine aw_icmp_eq (tg := 18) dX5_does_10 (by decide) (by omega) (fun h10 => absurd h10 (by omega)) (fun h10 => ?_)
    refine aw_bipush dX5_does_13 (by decide) ?_
    refine aw_iload_n dX5_does_15 rfl ?_
    refine aw_isub dX5_does_16 ?_
    refine aw_iret dX5_does_17 rfl ?_
    exact hQ0 f hf g1 (hR.sc s1.f) s1.f.m
