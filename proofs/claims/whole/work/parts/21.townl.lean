theorem tX4_districtOf_d (d : Nat) {di : Int → Int} {l a : Int} {g : sp_G} {Q : sp_P} (hdi : rH g 3 0 96 di) (h : 0 ≤ l * 24 + a ∧ l * 24 + a < 96) (hQ : Q (some (v_i (di (l * 24 + a)))) g) : sp_Met d mX4_districtOf [v_r 1, v_i l, v_i a] g Q := by
  exact tX4_districtOf d sp_isT_1 h (by rw [hdi (l * 24 + a) _ h.1 h.2 (by omega)]; exact hQ)
theorem tX4_namesOf_d (d : Nat) {na : Int → Int} {l e : Int} {g : sp_G} {Q : sp_P} (hna : rH g 4 0 24 na) (h : 0 ≤ l * 6 + e ∧ l * 6 + e < 24) (hQ : Q (some (v_i (na (l * 6 + e)))) g) : sp_Met d mX4_namesOf [v_r 1, v_i l, v_i e] g Q := by
  exact tX4_namesOf d h (by rw [hna (l * 6 + e) _ h.1 h.2 (by omega)]; exact hQ)
theorem tX4_nextLeader_d (d : Nat) {na : Int → Int} {l e n : Int} {g : sp_G} {Q : sp_P} (hna : rH g 4 0 24 na) (h : 0 ≤ l * 6 + e ∧ l * 6 + e < 24) (hn : 0 ≤ n ∧ n < 100 ∧ 0 ≤ na (l * 6 + e) ∧ na (l * 6 + e) < 100) (hQ : Q (some (v_i (if n + 1 < na (l * 6 + e) then n + 1 else 0))) g) : sp_Met (d + 1) mX4_nextLeader [v_r 1, v_i l, v_i e, v_i n] g Q := by
  have e9 := hna (l * 6 + e) (l * 6 + e) h.1 h.2 (by omega)
  exact tX4_nextLeader d h (by omega) (by rw [e9]; exact hQ)
theorem lX4_putR_in (d : Nat) {l e a b : Int} {di : Int → Int} {g0 : sp_G} {Q : sp_P} (hl : 0 ≤ l ∧ l ≤ 3) (he : 0 ≤ e ∧ e ≤ 5) (ha : 0 ≤ a ∧ a ≤ 23) (hb : 0 ≤ b ∧ b ≤ 23) (hv : ∀ i, 0 ≤ i → i < 96 → 0 ≤ di i ∧ di i ≤ 5) {r : Int} (hr : a / 4 ≤ r ∧ r ≤ b / 4) (hab : a % 4 ≤ b % 4)
    (hk : ∀ (c many : Int) (g : sp_G), pr_I l e a b di 3 0 g0 g (4 * r + b % 4 + 1) many → sp_AW mX4_putRectangle (d + 1) 55 [some (v_r 1), some (v_i l), some (v_i e), some (v_i a), some (v_i b), some (v_i many), some (v_i r), some (v_i c)] [] g Q) :
    ∀ (k : Nat) (c many : Int) (g : sp_G), a % 4 ≤ c → c + k = b % 4 + 1 → pr_I l e a b di 3 0 g0 g (4 * r + c) many → sp_AW mX4_putRectangle (d + 1) 22 [some (v_r 1), some (v_i l), some (v_i e), some (v_i a), some (v_i b), some (v_i many), some (v_i r), some (v_i c)] [] g Q := by
  intro k
  induction k with
  | zero =>
    intro c many g hc hck hI
    have ec : c = b % 4 + 1 := by omega
    rw [ec, show 4 * r + (b % 4 + 1) = 4 * r + b % 4 + 1 by omega] at hI
    refine aw_iload dX4_putRectangle_22 rfl ?_
    refine aw_iload dX4_putRectangle_24 rfl ?_
    refine aw_iconst dX4_putRectangle_26 ?_
    refine aw_irem dX4_putRectangle_27 (by omega) ?_
    refine aw_icmp_gt (tg := 55) dX4_putRectangle_28 (by decide) (by omega) (fun h28 => ?_) (fun h28 => absurd h28 (by omega))
    exact hk c many g hI
  | succ k ih =>
    intro c many g hc hck hI
    obtain ⟨i1, i2, i3, i4⟩ := hI
    have hcur : g 3 (l * 24 + (4 * r + c)) = di (l * 24 + (4 * r + c)) := by
      rw [i3 (l * 24 + (4 * r + c)) _ (by omega) (by omega) (by omega)]
      unfold pr_D
      rw [if_neg (by omega)]
    have hdv := hv (l * 24 + (4 * r + c)) (by omega) (by omega)
    have hq : inQ a b (4 * r + c) := by unfold inQ; omega
    refine aw_iload dX4_putRectangle_22 rfl ?_
    refine aw_iload dX4_putRectangle_24 rfl ?_
    refine aw_iconst dX4_putRectangle_26 ?_
    refine aw_irem dX4_putRectangle_27 (by omega) ?_
    refine aw_icmp_gt (tg := 55) dX4_putRectangle_28 (by decide) (by omega) (fun h28 => absurd h28 (by omega)) (fun h28 => ?_)
    refine aw_iload dX4_putRectangle_31 rfl ?_
    refine aw_aload_n dX4_putRectangle_33 rfl ?_
    refine aw_iload_n dX4_putRectangle_34 rfl ?_
    refine aw_iconst dX4_putRectangle_35 ?_
    refine aw_iload dX4_putRectangle_36 rfl ?_
    refine aw_imul dX4_putRectangle_38 ?_
    refine aw_iload dX4_putRectangle_39 rfl ?_
    refine aw_iadd dX4_putRectangle_41 ?_
    refine aw_iload_n dX4_putRectangle_42 rfl ?_
    refine aw_V3 dX4_putRectangle_43 okX4_setDistrict lkX4_38 rfl rfl rfl ?_
    refine tX4_setDistrict d (by omega) (by rw [hcur]; omega) ?_
    refine aw_iadd dX4_putRectangle_46 ?_
    refine aw_istore (L2 := [_, _, _, _, _, _, _, _]) dX4_putRectangle_47 (by decide) rfl rfl ?_
    refine aw_iinc (L2 := [_, _, _, _, _, _, _, _]) dX4_putRectangle_49 rfl (by decide) rfl rfl ?_
    refine aw_goto (tg := 22) dX4_putRectangle_52 (by decide) ?_
    refine ih _ _ _ (by omega) (by omega) ⟨?_, i2.up (by decide), ?_, fun j hj => ?_⟩
    · rw [hcur, i1, show 4 * r + (c + 1) = (4 * r + c) + 1 by omega, sI_s _ (by omega)]
      rw [show pr_F l e a b di (4 * r + c) = (if di (l * 24 + (4 * r + c)) = e then 0 else 1) from if_pos hq]
    · refine (i3.up (i := l * 24 + (4 * r + c)) (by omega)).c (fun t _ _ => ?_)
      rw [pr_D_s (by omega) hq, show 4 * r + (c + 1) = (4 * r + c) + 1 by omega]
    · rw [sp_up_i _ _ _ _ (by omega), i4 j hj]
theorem lX4_putR (d : Nat) {l e a b : Int} {di : Int → Int} {g0 : sp_G} {Q : sp_P} (hl : 0 ≤ l ∧ l ≤ 3) (he : 0 ≤ e ∧ e ≤ 5) (ha : 0 ≤ a ∧ a ≤ 23) (hb : 0 ≤ b ∧ b ≤ 23) (hv : ∀ i, 0 ≤ i → i < 96 → 0 ≤ di i ∧ di i ≤ 5) (hab : a % 4 ≤ b % 4)
    (hQ : ∀ (many : Int) (g : sp_G), pr_I l e a b di 3 0 g0 g 24 many → Q (some (v_i many)) g) :
    ∀ (k : Nat) (r many : Int) (cc : Option sp_V) (g : sp_G), a / 4 ≤ r → r + k = b / 4 + 1 → pr_I l e a b di 3 0 g0 g (4 * r) many → sp_nl cc = true → sp_AW mX4_putRectangle (d + 1) 8 [some (v_r 1), some (v_i l), some (v_i e), some (v_i a), some (v_i b), some (v_i many), some (v_i r), cc] [] g Q := by
  intro k
  induction k with
  | zero =>
    intro r many cc g hr hrk hI hcc
    refine aw_iload dX4_putRectangle_8 rfl ?_
    refine aw_iload dX4_putRectangle_10 rfl ?_
    refine aw_iconst dX4_putRectangle_12 ?_
    refine aw_idiv dX4_putRectangle_13 (by omega) ?_
    refine aw_icmp_gt (tg := 61) dX4_putRectangle_14 (by decide) (by omega) (fun h14 => ?_) (fun h14 => absurd h14 (by omega))
    refine aw_iload dX4_putRectangle_61 rfl ?_
    refine aw_iret dX4_putRectangle_63 rfl ?_
    obtain ⟨i1, i2, i3, i4⟩ := hI
    refine hQ many g ⟨?_, i2, i3.c (fun t h0 h1 => pr_D_f (by omega) (fun q h2 h3 => by unfold inQ; omega) t), i4⟩
    rw [i1, ← sI_f (f := pr_F l e a b di) (x := 4 * r) (y := 24) (by omega) (by omega) (fun i h1 h2 => by unfold pr_F; rw [if_neg (by unfold inQ; omega)])]
  | succ k ih =>
    intro r many cc g hr hrk hI hcc
    refine aw_iload dX4_putRectangle_8 rfl ?_
    refine aw_iload dX4_putRectangle_10 rfl ?_
    refine aw_iconst dX4_putRectangle_12 ?_
    refine aw_idiv dX4_putRectangle_13 (by omega) ?_
    refine aw_icmp_gt (tg := 61) dX4_putRectangle_14 (by decide) (by omega) (fun h14 => absurd h14 (by omega)) (fun h14 => ?_)
    refine aw_iload_n dX4_putRectangle_17 rfl ?_
    refine aw_iconst dX4_putRectangle_18 ?_
    refine aw_irem dX4_putRectangle_19 (by omega) ?_
    refine aw_istore (L2 := [_, _, _, _, _, _, _, _]) dX4_putRectangle_20 (by decide) rfl rfl ?_
    refine lX4_putR_in (g0 := g0) d hl he ha hb hv (by omega) hab (fun c many g hI => ?_) (b % 4 + 1 - a % 4).toNat (a % 4) many g (by omega) (by omega) ?_
    · refine aw_iinc (L2 := [_, _, _, _, _, _, _, _]) dX4_putRectangle_55 rfl (by decide) rfl rfl ?_
      refine aw_goto (tg := 8) dX4_putRectangle_58 (by decide) ?_
      obtain ⟨i1, i2, i3, i4⟩ := hI
      refine ih _ _ _ _ (by omega) (by omega) ⟨?_, i2, i3.c (fun t h0 h1 => pr_D_f (by omega) (fun q h2 h3 => by unfold inQ; omega) t), i4⟩ rfl
      rw [i1, ← sI_f (f := pr_F l e a b di) (x := 4 * r + b % 4 + 1) (y := 4 * (r + 1)) (by omega) (by omega) (fun i h1 h2 => by unfold pr_F; rw [if_neg (by unfold inQ; omega)])]
    · obtain ⟨i1, i2, i3, i4⟩ := hI
      refine ⟨?_, i2, i3.c (fun t h0 h1 => pr_D_f (by omega) (fun q h2 h3 => by unfold inQ; omega) t), i4⟩
      rw [i1, ← sI_f (f := pr_F l e a b di) (x := 4 * r) (y := 4 * r + a % 4) (by omega) (by omega) (fun i h1 h2 => by unfold pr_F; rw [if_neg (by unfold inQ; omega)])]
theorem tX4_putRectangle (d : Nat) {di : Int → Int} {l e a b : Int} {g : sp_G} {Q : sp_P} (hl : 0 ≤ l ∧ l ≤ 3) (he : 0 ≤ e ∧ e ≤ 5) (ha : 0 ≤ a ∧ a ≤ 23) (hb : 0 ≤ b ∧ b ≤ 23) (hv : ∀ i, 0 ≤ i → i < 96 → 0 ≤ di i ∧ di i ≤ 5) (hab : a / 4 ≤ b / 4 ∧ a % 4 ≤ b % 4) (hdi : rH g 3 0 96 di) (hQ : ∀ (many : Int) (g2 : sp_G), pr_I l e a b di 3 0 g g2 24 many → Q (some (v_i many)) g2) : sp_Met (d + 1) mX4_putRectangle [v_r 1, v_i l, v_i e, v_i a, v_i b] g Q := by
  refine sp_of (L := [_, _, _, _, _, _, _, _]) (by decide) (Nat.le_of_ble_eq_true rfl) rfl rfl ?_
  refine aw_iconst dX4_putRectangle_0 ?_
  refine aw_istore (L2 := [_, _, _, _, _, _, _, _]) dX4_putRectangle_1 (by decide) rfl rfl ?_
  refine aw_iload_n dX4_putRectangle_3 rfl ?_
  refine aw_iconst dX4_putRectangle_4 ?_
  refine aw_idiv dX4_putRectangle_5 (by omega) ?_
  refine aw_istore (L2 := [_, _, _, _, _, _, _, _]) dX4_putRectangle_6 (by decide) rfl rfl ?_
  refine lX4_putR d hl he ha hb hv hab.2 hQ (b / 4 + 1 - a / 4).toNat _ _ _ _ (by omega) (by omega) ⟨?_, sp_fr.rf, hdi.c (fun t h0 h1 => ?_), fun j hj => rfl⟩ rfl
  · rw [sI_f (f := pr_F l e a b di) (x := 0) (y := 4 * (a / 4)) (by omega) (by omega) (fun i h1 h2 => by unfold pr_F; rw [if_neg (by unfold inQ; omega)])]
    rfl
  · rw [← pr_D_f (m := 0) (by omega) (fun q h2 h3 => by unfold inQ; omega) t, pr_D_0]
theorem lX4_draw (d : Nat) {l sd n : Int} {pe di : Int → Int} {g0 : sp_G} {Q : sp_P} (hl : 0 ≤ l ∧ l ≤ 3) (hs : 0 ≤ sd ∧ sd < 2147483648) (hn : 1 ≤ n ∧ n ≤ 6) (hv : ∀ i, 0 ≤ i → i < 96 → 0 ≤ di i ∧ di i ≤ 5)
    (hQ : ∀ g : sp_G, sp_fr [2, 3] g0 g → rH g 2 0 24 (dr_p sd) → rH g 3 0 96 (ly l (dr_d sd n) di 24) → Q (some (v_i (sI (dr_p sd) 24))) g) :
    ∀ (k : Nat) (a x all : Int) (g : sp_G), 0 ≤ a → a + k = 24 → x = dXI sd a → all = sI (dr_p sd) a → sp_fr [2, 3] g0 g → rH g 2 0 24 (fun i => if i < a then dr_p sd i else pe i) → rH g 3 0 96 (ly l (dr_d sd n) di a) → sp_AW mX4_drawLayer (d + 1) 10 [some (v_r 1), some (v_i l), some (v_i sd), some (v_i n), some (v_l x), none, some (v_i all), some (v_i a)] [] g Q := by
  intro k
  induction k with
  | zero =>
    intro a x all g h0 hk ex eall hf hp hd
    have ea : a = 24 := by omega
    subst ea
    refine aw_iload dX4_drawLayer_10 rfl ?_
    refine aw_bipush dX4_drawLayer_12 (by decide) ?_
    refine aw_icmp_ge (tg := 87) dX4_drawLayer_14 (by decide) (by omega) (fun h14 => ?_) (fun h14 => absurd h14 (by omega))
    refine aw_iload dX4_drawLayer_87 rfl ?_
    refine aw_iret dX4_drawLayer_89 rfl ?_
    rw [eall]
    exact hQ g hf (hp.c (fun i h1 h2 => if_pos h2)) hd
  | succ k ih =>
    intro a x all g h0 hk ex eall hf hp hd
    have hxb := dXI_b (seed := sd) (a := a) hs
    have hxs := dXI_s (seed := sd) h0
    have hxb2 := dXI_b (seed := sd) (a := a + 1) hs
    rw [← ex] at hxs hxb
    rw [hxs] at hxb2
    have hdd := dr_d_b (seed := sd) (n := n) a hn
    have hpp := dr_p_b (seed := sd) a
    have ed : (x * 1103515245 + 12345) % 2147483648 / 65536 % n = dr_d sd n a := by unfold dr_d; rw [hxs]
    have ep : (x * 1103515245 + 12345) % 2147483648 / 1024 % 30 = dr_p sd a := by unfold dr_p; rw [hxs]
    have hcur : g 3 (l * 24 + a) = di (l * 24 + a) := by rw [hd (l * 24 + a) _ (by omega) (by omega) (by omega), ly_at (by omega)]
    have hdv := hv (l * 24 + a) (by omega) (by omega)
    refine aw_iload dX4_drawLayer_10 rfl ?_
    refine aw_bipush dX4_drawLayer_12 (by decide) ?_
    refine aw_icmp_ge (tg := 87) dX4_drawLayer_14 (by decide) (by omega) (fun h14 => absurd h14 (by omega)) (fun h14 => ?_)
    refine aw_lload dX4_drawLayer_17 rfl ?_
    refine aw_ldc2 dX4_drawLayer_19 kcX4_42 ?_
    refine aw_lmul dX4_drawLayer_22 ?_
    refine aw_ldc2 dX4_drawLayer_23 kcX4_44 ?_
    refine aw_ladd dX4_drawLayer_26 ?_
    refine aw_ldc2 dX4_drawLayer_27 kcX4_46 ?_
    refine aw_lrem dX4_drawLayer_30 (by omega) ?_
    refine aw_lstore (L2 := [_, _, _, _, _, _, _, _]) dX4_drawLayer_31 (by decide) rfl rfl ?_
    refine aw_aload_n dX4_drawLayer_33 rfl ?_
    refine aw_iload_n dX4_drawLayer_34 rfl ?_
    refine aw_iload dX4_drawLayer_35 rfl ?_
    refine aw_lload dX4_drawLayer_37 rfl ?_
    refine aw_ldc2 dX4_drawLayer_39 kcX4_48 ?_
    refine aw_ldiv dX4_drawLayer_42 (by omega) ?_
    refine aw_iload_n dX4_drawLayer_43 rfl ?_
    refine aw_i2l dX4_drawLayer_44 (by omega) ?_
    refine aw_lrem dX4_drawLayer_45 (by omega) ?_
    refine aw_l2i dX4_drawLayer_46 ?_
    rw [ed]
    refine aw_V3 dX4_drawLayer_47 okX4_setDistrict lkX4_38 rfl rfl rfl ?_
    refine tX4_setDistrict d (by omega) (by rw [hcur]; omega) ?_
    refine aw_pop dX4_drawLayer_50 rfl ?_
    refine aw_aload_n dX4_drawLayer_51 rfl ?_
    refine aw_getR dX4_drawLayer_52 flX4_9 rfl rfl ?_
    refine aw_iload dX4_drawLayer_55 rfl ?_
    refine aw_lload dX4_drawLayer_57 rfl ?_
    refine aw_ldc2 dX4_drawLayer_59 kcX4_50 ?_
    refine aw_ldiv dX4_drawLayer_62 (by omega) ?_
    refine aw_ldc2 dX4_drawLayer_63 kcX4_52 ?_
    refine aw_lrem dX4_drawLayer_66 (by omega) ?_
    refine aw_l2i dX4_drawLayer_67 ?_
    rw [ep]
    refine aw_iast dX4_drawLayer_68 rfl (by omega) ?_
    refine aw_iload dX4_drawLayer_69 rfl ?_
    refine aw_aload_n dX4_drawLayer_71 rfl ?_
    refine aw_getR dX4_drawLayer_72 flX4_9 rfl rfl ?_
    refine aw_iload dX4_drawLayer_75 rfl ?_
    refine aw_iald dX4_drawLayer_77 rfl (by omega) ?_
    rw [sp_up_s]
    refine aw_iadd dX4_drawLayer_78 ?_
    refine aw_istore (L2 := [_, _, _, _, _, _, _, _]) dX4_drawLayer_79 (by decide) rfl rfl ?_
    refine aw_iinc (L2 := [_, _, _, _, _, _, _, _]) dX4_drawLayer_81 rfl (by decide) rfl rfl ?_
    refine aw_goto (tg := 10) dX4_drawLayer_84 (by decide) ?_
    refine ih (a + 1) _ _ _ (by omega) (by omega) hxs.symm ?_ ((hf.up (by decide)).up (by decide)) ?_ ?_
    · rw [eall, sI_s _ h0]
    · refine ((hp.ne (by decide)).up (i := a) (by omega)).c (fun t h1 h2 => ?_)
      by_cases ht : t = a
      · rw [if_pos ht, if_pos (by omega), ht]
      · rw [if_neg ht]
        by_cases h3 : t < a
        · rw [if_pos h3, if_pos (by omega)]
        · rw [if_neg h3, if_neg (by omega)]
    · exact ((hd.up (i := l * 24 + a) (by omega)).c (fun t _ _ => ly_s h0 t)).ne (by decide)
theorem tX4_drawLayer (d : Nat) {pe di : Int → Int} {l sd n : Int} {g : sp_G} {Q : sp_P} (hl : 0 ≤ l ∧ l ≤ 3) (hs : 0 ≤ sd ∧ sd ≤ 999999) (hn : 1 ≤ n ∧ n ≤ 6) (hv : ∀ i, 0 ≤ i → i < 96 → 0 ≤ di i ∧ di i ≤ 5) (hpe : rH g 2 0 24 pe) (hdi : rH g 3 0 96 di) (hQ : ∀ g2 : sp_G, sp_fr [2, 3] g g2 → rH g2 2 0 24 (dr_p sd) → rH g2 3 0 96 (ly l (dr_d sd n) di 24) → Q (some (v_i (sI (dr_p sd) 24))) g2) : sp_Met (d + 1) mX4_drawLayer [v_r 1, v_i l, v_i sd, v_i n] g Q := by
  refine sp_of (L := [_, _, _, _, _, _, _, _]) (by decide) (Nat.le_of_ble_eq_true rfl) rfl rfl ?_
  refine aw_iload_n dX4_drawLayer_0 rfl ?_
  refine aw_i2l dX4_drawLayer_1 (by omega) ?_
  refine aw_lstore (L2 := [_, _, _, _, _, _, _, _]) dX4_drawLayer_2 (by decide) rfl rfl ?_
  refine aw_iconst dX4_drawLayer_4 ?_
  refine aw_istore (L2 := [_, _, _, _, _, _, _, _]) dX4_drawLayer_5 (by decide) rfl rfl ?_
  refine aw_iconst dX4_drawLayer_7 ?_
  refine aw_istore (L2 := [_, _, _, _, _, _, _, _]) dX4_drawLayer_8 (by decide) rfl rfl ?_
  refine lX4_draw d hl (by omega) hn hv hQ 24 0 _ _ g (by omega) (by omega) rfl rfl sp_fr.rf (hpe.c (fun i h1 h2 => (if_neg (by omega)).symm)) ?_
  rw [ly_0]
  exact hdi
theorem tX4_followed (d : Nat) {t : Nat} {di : Int → Int} {l way k a : Int} {g : sp_G} {Q : sp_P} (hT : sp_isT t) (hl : 0 ≤ l ∧ l ≤ 3) (hw : 0 ≤ way ∧ way ≤ 3) (hk : 0 ≤ k ∧ k ≤ 3) (ha : 0 ≤ a ∧ a ≤ 23) (hv : ∀ i, 0 ≤ i → i < 96 → 0 ≤ di i ∧ di i ≤ 5) (hdi : rH g (t + 2) 0 96 di) (hQ : Q (some (v_i (fw di l way k a))) g) : sp_Met (d + 1) mX4_followed [v_r t, v_i l, v_i way, v_i k, v_i a] g Q := by
  refine sp_of (L := [_, _, _, _, _, _]) (by decide) (Nat.le_of_ble_eq_true rfl) rfl rfl ?_
  have hdo : ∀ (x y : Int) (R : sp_P), 0 ≤ x * 24 + y ∧ x * 24 + y < 96 → R (some (v_i (di (x * 24 + y)))) g → sp_Met d mX4_districtOf [v_r t, v_i x, v_i y] g R := fun x y R h hR => tX4_districtOf d hT h (by rw [hdi (x * 24 + y) _ h.1 h.2 (by omega)]; exact hR)
  unfold fw at hQ
  have hv1 := hv (l * 24 + a) (by omega) (by omega)
  have hv2 := hv (k * 24 + a) (by omega) (by omega)
  refine aw_iload dX4_followed_0 rfl ?_
  refine aw_iconst dX4_followed_2 ?_
  refine aw_irem dX4_followed_3 (by omega) ?_
  refine aw_istore (L2 := [_, _, _, _, _, _]) dX4_followed_4 (by decide) rfl rfl ?_
  refine aw_iload_n dX4_followed_6 rfl ?_
  rcases (show way = 0 ∨ way = 1 ∨ way = 2 ∨ way = 3 by omega) with h | h | h | h
  · subst h
    refine aw_tin (tg := 32) dX4_followed_7 (by omega) (by omega) rfl (by decide) ?_
    refine aw_aload_n dX4_followed_32 rfl ?_
    refine aw_iload_n dX4_followed_33 rfl ?_
    refine aw_iload dX4_followed_34 rfl ?_
    refine aw_V2 dX4_followed_36 okX4_districtOf lkX4_31 hT.1 rfl rfl ?_
    refine hdo _ _ _ (by omega) ?_
    refine aw_iret dX4_followed_39 rfl ?_
    exact hQ
  · subst h
    refine aw_tin (tg := 40) dX4_followed_7 (by omega) (by omega) rfl (by decide) ?_
    refine aw_aload_n dX4_followed_40 rfl ?_
    refine aw_iload_n dX4_followed_41 rfl ?_
    refine aw_iload dX4_followed_42 rfl ?_
    refine aw_iload dX4_followed_44 rfl ?_
    refine aw_isub dX4_followed_46 ?_
    refine aw_iconst dX4_followed_47 ?_
    refine aw_iadd dX4_followed_48 ?_
    refine aw_iconst dX4_followed_49 ?_
    refine aw_isub dX4_followed_50 ?_
    refine aw_iload dX4_followed_51 rfl ?_
    refine aw_isub dX4_followed_53 ?_
    refine aw_V2 dX4_followed_54 okX4_districtOf lkX4_31 hT.1 rfl rfl ?_
    refine hdo _ _ _ (by omega) ?_
    refine aw_iret dX4_followed_57 rfl ?_
    rw [show a - a % 4 + 4 - 1 - a % 4 = a / 4 * 4 + 3 - a % 4 by omega]
    exact hQ
  · subst h
    refine aw_tin (tg := 58) dX4_followed_7 (by omega) (by omega) rfl (by decide) ?_
    refine aw_aload_n dX4_followed_58 rfl ?_
    refine aw_iload_n dX4_followed_59 rfl ?_
    refine aw_bipush dX4_followed_60 (by decide) ?_
    refine aw_iload dX4_followed_62 rfl ?_
    refine aw_iload dX4_followed_64 rfl ?_
    refine aw_isub dX4_followed_66 ?_
    refine aw_isub dX4_followed_67 ?_
    refine aw_iload dX4_followed_68 rfl ?_
    refine aw_iadd dX4_followed_70 ?_
    refine aw_V2 dX4_followed_71 okX4_districtOf lkX4_31 hT.1 rfl rfl ?_
    refine hdo _ _ _ (by omega) ?_
    refine aw_iret dX4_followed_74 rfl ?_
    rw [show 20 - (a - a % 4) + a % 4 = 20 - a / 4 * 4 + a % 4 by omega]
    exact hQ
  · subst h
    refine aw_tout (tg := 75) dX4_followed_7 (by omega) (by omega) (by decide) ?_
    refine aw_aload_n dX4_followed_75 rfl ?_
    refine aw_iload_n dX4_followed_76 rfl ?_
    refine aw_iload dX4_followed_77 rfl ?_
    refine aw_V2 dX4_followed_79 okX4_districtOf lkX4_31 hT.1 rfl rfl ?_
    refine hdo _ _ _ (by omega) ?_
    refine aw_aload_n dX4_followed_82 rfl ?_
    refine aw_iload_n dX4_followed_83 rfl ?_
    refine aw_iload dX4_followed_84 rfl ?_
    refine aw_V2 dX4_followed_86 okX4_districtOf lkX4_31 hT.1 rfl rfl ?_
    refine hdo _ _ _ (by omega) ?_
    refine aw_mmax dX4_followed_89 lkX4_58 (by omega) rfl ?_
    refine aw_iret dX4_followed_92 rfl ?_
    exact hQ
def fw_c (di : Int → Int) (l way k : Int) : Int → Int := fun a => if di (l * 24 + a) = fw di l way k a then 0 else 1
theorem fw_b {di : Int → Int} {l way k a : Int} (hl : 0 ≤ l ∧ l ≤ 3) (hk : 0 ≤ k ∧ k ≤ 3) (ha : 0 ≤ a ∧ a ≤ 23) (hv : ∀ i, 0 ≤ i → i < 96 → 0 ≤ di i ∧ di i ≤ 5) : 0 ≤ fw di l way k a ∧ fw di l way k a ≤ 5 := by
  have h1 := hv (k * 24 + a) (by omega) (by omega)
  have h2 := hv (l * 24 + (a / 4 * 4 + 3 - a % 4)) (by omega) (by omega)
  have h3 := hv (l * 24 + (20 - a / 4 * 4 + a % 4)) (by omega) (by omega)
  have h4 := hv (l * 24 + a) (by omega) (by omega)
  unfold fw
  repeat' split
  all_goals omega
theorem lX4_follow (d : Nat) {t : Nat} {di : Int → Int} {l way k : Int} {g0 : sp_G} {Q : sp_P} (hT : sp_isT t) (ht : t + 2 ≠ 3) (hl : 0 ≤ l ∧ l ≤ 3) (hw : 0 ≤ way ∧ way ≤ 3) (hk : 0 ≤ k ∧ k ≤ 3) (hv : ∀ i, 0 ≤ i → i < 96 → 0 ≤ di i ∧ di i ≤ 5) (hdt : rH g0 (t + 2) 0 96 di)
    (hQ : ∀ g : sp_G, sp_fr [3] g0 g → rH g 3 0 96 (ly l (fw di l way k) di 24) → Q (some (v_i (sI (fw_c di l way k) 24))) g) :
    ∀ (n : Nat) (a many : Int) (g : sp_G), 0 ≤ a → a + n = 24 → many = sI (fw_c di l way k) a → sp_fr [3] g0 g → rH g 3 0 96 (ly l (fw di l way k) di a) → sp_AW mX4_followMap (d + 2) 6 [some (v_r 1), some (v_r t), some (v_i l), some (v_i way), some (v_i k), some (v_i many), some (v_i a)] [] g Q := by
  intro n
  induction n with
  | zero =>
    intro a many g h0 hn em hf hd
    have ea : a = 24 := by omega
    subst ea
    refine aw_iload dX4_followMap_6 rfl ?_
    refine aw_bipush dX4_followMap_8 (by decide) ?_
    refine aw_icmp_ge (tg := 41) dX4_followMap_10 (by decide) (by omega) (fun h10 => ?_) (fun h10 => absurd h10 (by omega))
    refine aw_iload dX4_followMap_41 rfl ?_
    refine aw_iret dX4_followMap_43 rfl ?_
    rw [em]
    exact hQ g hf hd
  | succ n ih =>
    intro a many g h0 hn em hf hd
    have hcur : g 3 (l * 24 + a) = di (l * 24 + a) := by rw [hd (l * 24 + a) _ (by omega) (by omega) (by omega), ly_at (by omega)]
    have hdv := hv (l * 24 + a) (by omega) (by omega)
    have hfb := fw_b (way := way) (a := a) hl hk (by omega) hv
    refine aw_iload dX4_followMap_6 rfl ?_
    refine aw_bipush dX4_followMap_8 (by decide) ?_
    refine aw_icmp_ge (tg := 41) dX4_followMap_10 (by decide) (by omega) (fun h10 => absurd h10 (by omega)) (fun h10 => ?_)
    refine aw_iload dX4_followMap_13 rfl ?_
    refine aw_aload_n dX4_followMap_15 rfl ?_
    refine aw_iload_n dX4_followMap_16 rfl ?_
    refine aw_iload dX4_followMap_17 rfl ?_
    refine aw_aload_n dX4_followMap_19 rfl ?_
    refine aw_iload_n dX4_followMap_20 rfl ?_
    refine aw_iload_n dX4_followMap_21 rfl ?_
    refine aw_iload dX4_followMap_22 rfl ?_
    refine aw_iload dX4_followMap_24 rfl ?_
    refine aw_S5 dX4_followMap_26 okX4_followed lkX4_54 rfl ?_
    refine tX4_followed d hT hl hw hk (by omega) hv (hdt.fr hf (by simpa using ht)) ?_
    refine aw_V3 dX4_followMap_29 okX4_setDistrict lkX4_38 rfl rfl rfl ?_
    refine tX4_setDistrict (d + 1) (by omega) (by rw [hcur]; omega) ?_
    refine aw_iadd dX4_followMap_32 ?_
    refine aw_istore (L2 := [_, _, _, _, _, _, _]) dX4_followMap_33 (by decide) rfl rfl ?_
    refine aw_iinc (L2 := [_, _, _, _, _, _, _]) dX4_followMap_35 rfl (by decide) rfl rfl ?_
    refine aw_goto (tg := 6) dX4_followMap_38 (by decide) ?_
    refine ih (a + 1) _ _ (by omega) (by omega) ?_ (hf.up (by decide)) ?_
    · rw [em, hcur, sI_s _ h0]
      rfl
    · exact (hd.up (i := l * 24 + a) (by omega)).c (fun t _ _ => ly_s h0 t)
theorem tX4_followMap (d : Nat) {t : Nat} {di : Int → Int} {l way k : Int} {g : sp_G} {Q : sp_P} (hT : sp_isT t) (ht : t + 2 ≠ 3) (hl : 0 ≤ l ∧ l ≤ 3) (hw : 0 ≤ way ∧ way ≤ 3) (hk : 0 ≤ k ∧ k ≤ 3) (hv : ∀ i, 0 ≤ i → i < 96 → 0 ≤ di i ∧ di i ≤ 5) (hdt : rH g (t + 2) 0 96 di) (hdi : rH g 3 0 96 di) (hQ : ∀ g2 : sp_G, sp_fr [3] g g2 → rH g2 3 0 96 (ly l (fw di l way k) di 24) → Q (some (v_i (sI (fw_c di l way k) 24))) g2) : sp_Met (d + 2) mX4_followMap [v_r 1, v_r t, v_i l, v_i way, v_i k] g Q := by
  refine sp_of (L := [_, _, _, _, _, _, _]) (by decide) (Nat.le_of_ble_eq_true rfl) rfl rfl ?_
  refine aw_iconst dX4_followMap_0 ?_
  refine aw_istore (L2 := [_, _, _, _, _, _, _]) dX4_followMap_1 (by decide) rfl rfl ?_
  refine aw_iconst dX4_followMap_3 ?_
  refine aw_istore (L2 := [_, _, _, _, _, _, _]) dX4_followMap_4 (by decide) rfl rfl ?_
  refine lX4_follow d hT ht hl hw hk hv hdt hQ 24 0 _ g (by omega) (by omega) rfl sp_fr.rf ?_
  rw [ly_0]
  exact hdi
theorem lX4_leaderIn (d : Nat) {pe di na : Int → Int} {on l a e : Int} {g : sp_G} {Q : sp_P} (hl : 0 ≤ l ∧ l ≤ 3) (ha : 0 ≤ a ∧ a ≤ 23) (hv : tV pe di na on) (hdi : rH g 3 0 96 di) (hna : rH g 4 0 24 na) (he : 0 ≤ e ∧ e ≤ 5)
    (hQ : Q (some (v_i (rk di l e a % na (l * 6 + e)))) g) :
    ∀ (n : Nat) (b z : Int), 0 ≤ b → b + n = a → z = rk di l e b % na (l * 6 + e) → sp_AW mX4_leaderIn (d + 2) 13 [some (v_r 1), some (v_i l), some (v_i a), some (v_i e), some (v_i z), some (v_i b)] [] g Q := by
  have hn1 := hv.2.2.1 (l * 6 + e) (by omega) (by omega)
  intro n
  induction n with
  | zero =>
    intro b z h0 hn ez
    have eb : b = a := by omega
    subst eb
    refine aw_iload dX4_leaderIn_13 rfl ?_
    refine aw_iload_n dX4_leaderIn_15 rfl ?_
    refine aw_icmp_ge (tg := 46) dX4_leaderIn_16 (by decide) (by omega) (fun h16 => ?_) (fun h16 => absurd h16 (by omega))
    refine aw_iload dX4_leaderIn_46 rfl ?_
    refine aw_iret dX4_leaderIn_48 rfl ?_
    rw [ez]
    exact hQ
  | succ n ih =>
    intro b z h0 hn ez
    have hdv := hv.2.1 (l * 24 + b) (by omega) (by omega)
    have hr := rk_b (di := di) (l := l) (e := e) h0
    have hm1 := Int.emod_nonneg (rk di l e b) (show na (l * 6 + e) ≠ 0 by omega)
    have hm2 := Int.emod_lt_of_pos (rk di l e b) (show 0 < na (l * 6 + e) by omega)
    refine aw_iload dX4_leaderIn_13 rfl ?_
    refine aw_iload_n dX4_leaderIn_15 rfl ?_
    refine aw_icmp_ge (tg := 46) dX4_leaderIn_16 (by decide) (by omega) (fun h16 => absurd h16 (by omega)) (fun h16 => ?_)
    refine aw_aload_n dX4_leaderIn_19 rfl ?_
    refine aw_iload_n dX4_leaderIn_20 rfl ?_
    refine aw_iload dX4_leaderIn_21 rfl ?_
    refine aw_V2 dX4_leaderIn_23 okX4_districtOf lkX4_31 rfl rfl rfl ?_
    refine tX4_districtOf_d (d + 1) hdi (by omega) ?_
    refine aw_iload_n dX4_leaderIn_26 rfl ?_
    refine aw_icmp_ne (tg := 40) dX4_leaderIn_27 (by decide) (by omega) (fun h27 => ?_) (fun h27 => ?_)
    · refine aw_iinc (L2 := [_, _, _, _, _, _]) dX4_leaderIn_40 rfl (by decide) rfl rfl ?_
      refine aw_goto (tg := 13) dX4_leaderIn_43 (by decide) ?_
      refine ih (b + 1) _ (by omega) (by omega) ?_
      rw [rk_s h0]
      first
        | (rw [if_neg h27, ez, Int.add_zero])
        | (rw [if_pos h27, ez, p_turn hr.1 (by omega)])
    · refine aw_aload_n dX4_leaderIn_30 rfl ?_
      refine aw_iload_n dX4_leaderIn_31 rfl ?_
      refine aw_iload_n dX4_leaderIn_32 rfl ?_
      refine aw_iload dX4_leaderIn_33 rfl ?_
      refine aw_V3 dX4_leaderIn_35 okX4_nextLeader lkX4_63 rfl rfl rfl ?_
      refine tX4_nextLeader_d d hna (by omega) (by omega) ?_
      refine aw_istore (L2 := [_, _, _, _, _, _]) dX4_leaderIn_38 (by decide) rfl rfl ?_
      refine aw_iinc (L2 := [_, _, _, _, _, _]) dX4_leaderIn_40 rfl (by decide) rfl rfl ?_
      refine aw_goto (tg := 13) dX4_leaderIn_43 (by decide) ?_
      refine ih (b + 1) _ (by omega) (by omega) ?_
      rw [rk_s h0]
      first
        | (rw [if_neg h27, ez, Int.add_zero])
        | (rw [if_pos h27, ez, p_turn hr.1 (by omega)])
theorem tX4_leaderIn (d : Nat) {pe di na : Int → Int} {on l a : Int} {g : sp_G} {Q : sp_P} (hl : 0 ≤ l ∧ l ≤ 3) (ha : 0 ≤ a ∧ a ≤ 23) (hv : tV pe di na on) (hdi : rH g 3 0 96 di) (hna : rH g 4 0 24 na) (hQ : Q (some (v_i (rk di l (di (l * 24 + a)) a % na (l * 6 + di (l * 24 + a))))) g) : sp_Met (d + 2) mX4_leaderIn [v_r 1, v_i l, v_i a] g Q := by
  refine sp_of (L := [_, _, _, _, _, _]) (by decide) (Nat.le_of_ble_eq_true rfl) rfl rfl ?_
  refine aw_aload_n dX4_leaderIn_0 rfl ?_
  refine aw_iload_n dX4_leaderIn_1 rfl ?_
  refine aw_iload_n dX4_leaderIn_2 rfl ?_
  refine aw_V2 dX4_leaderIn_3 okX4_districtOf lkX4_31 rfl rfl rfl ?_
  refine tX4_districtOf_d (d + 1) hdi (by omega) ?_
  refine aw_istore_n (L2 := [_, _, _, _, _, _]) dX4_leaderIn_6 (by decide) rfl rfl ?_
  refine aw_iconst dX4_leaderIn_7 ?_
  refine aw_istore (L2 := [_, _, _, _, _, _]) dX4_leaderIn_8 (by decide) rfl rfl ?_
  refine aw_iconst dX4_leaderIn_10 ?_
  refine aw_istore (L2 := [_, _, _, _, _, _]) dX4_leaderIn_11 (by decide) rfl rfl ?_
  have hdv := hv.2.1 (l * 24 + a) (by omega) (by omega)
  refine lX4_leaderIn d hl ha hv hdi hna hdv hQ a.toNat 0 0 (by omega) (by omega) ?_
  rfl
theorem lX4_ledBy (d : Nat) {pe di na : Int → Int} {on l e n : Int} {v : Prop} [Decidable v] {g : sp_G} {Q : sp_P} (hl : 0 ≤ l ∧ l ≤ 3) (he : 0 ≤ e ∧ e ≤ 5) (hnn : 0 ≤ n ∧ n ≤ 7) (hv : tV pe di na on) (hpe : rH g 2 0 24 pe) (hdi : rH g 3 0 96 di) (hna : rH g 4 0 24 na)
    (hQ : Q (some (v_i (sI (led pe di na l e n v) 24))) g) :
    ∀ (k : Nat) (a many z : Int), 0 ≤ a → a + k = 24 → many = sI (led pe di na l e n v) a → z = rk di l e a % na (l * 6 + e) → sp_AW mX4_ledBy (d + 2) 9 [some (v_r 1), some (v_i l), some (v_i e), some (v_i n), some (v_i (sp_bl v)), some (v_i many), some (v_i z), some (v_i a)] [] g Q := by
  have hn1 := hv.2.2.1 (l * 6 + e) (by omega) (by omega)
  intro k
  induction k with
  | zero =>
    intro a many z h0 hn em ez
    have ea : a = 24 := by omega
    subst ea
    refine aw_iload dX4_ledBy_9 rfl ?_
    refine aw_bipush dX4_ledBy_11 (by decide) ?_
    refine aw_icmp_ge (tg := 70) dX4_ledBy_13 (by decide) (by omega) (fun h13 => ?_) (fun h13 => absurd h13 (by omega))
    refine aw_iload dX4_ledBy_70 rfl ?_
    refine aw_iret dX4_ledBy_72 rfl ?_
    rw [em]
    exact hQ
  | succ k ih =>
    intro a many z h0 hn em ez
    have hdv := hv.2.1 (l * 24 + a) (by omega) (by omega)
    have hr := rk_b (di := di) (l := l) (e := e) h0
    have hm1 := Int.emod_nonneg (rk di l e a) (show na (l * 6 + e) ≠ 0 by omega)
    have hm2 := Int.emod_lt_of_pos (rk di l e a) (show 0 < na (l * 6 + e) by omega)
    have hpa := hpe a a (by omega) (by omega) (by omega)
    refine aw_iload dX4_ledBy_9 rfl ?_
    refine aw_bipush dX4_ledBy_11 (by decide) ?_
    refine aw_icmp_ge (tg := 70) dX4_ledBy_13 (by decide) (by omega) (fun h13 => absurd h13 (by omega)) (fun h13 => ?_)
    refine aw_aload_n dX4_ledBy_16 rfl ?_
    refine aw_iload_n dX4_ledBy_17 rfl ?_
    refine aw_iload dX4_ledBy_18 rfl ?_
    refine aw_V2 dX4_ledBy_20 okX4_districtOf lkX4_31 rfl rfl rfl ?_
    refine tX4_districtOf_d (d + 1) hdi (by omega) ?_
    refine aw_iload_n dX4_ledBy_23 rfl ?_
    refine aw_icmp_ne (tg := 64) dX4_ledBy_24 (by decide) (by omega) (fun h24 => ?_) (fun h24 => ?_)
    · refine aw_iinc (L2 := [_, _, _, _, _, _, _, _]) dX4_ledBy_64 rfl (by decide) rfl rfl ?_
      refine aw_goto (tg := 9) dX4_ledBy_67 (by decide) ?_
      refine ih (a + 1) _ _ (by omega) (by omega) ?_ ?_
      · rw [sI_s _ h0, ← em]
        unfold led
        first
          | (rw [if_neg (fun q => h24 q.1)]; omega)
          | (rw [if_neg (fun q => h30 (ez.trans q.2))]; omega)
          | (rw [if_pos ⟨h24, ez ▸ h30⟩, if_pos h37])
          | (rw [if_pos ⟨h24, ez ▸ h30⟩, if_neg h37])
      · rw [rk_s h0]
        first
          | (rw [if_neg h24, ez, Int.add_zero])
          | (rw [if_pos h24, ez, p_turn hr.1 (by omega)])
    · refine aw_iload dX4_ledBy_27 rfl ?_
      refine aw_iload_n dX4_ledBy_29 rfl ?_
      refine aw_icmp_ne (tg := 54) dX4_ledBy_30 (by decide) (by omega) (fun h30 => ?_) (fun h30 => ?_)
      · refine aw_aload_n dX4_ledBy_54 rfl ?_
        refine aw_iload_n dX4_ledBy_55 rfl ?_
        refine aw_iload_n dX4_ledBy_56 rfl ?_
        refine aw_iload dX4_ledBy_57 rfl ?_
        refine aw_V3 dX4_ledBy_59 okX4_nextLeader lkX4_63 rfl rfl rfl ?_
        refine tX4_nextLeader_d d hna (by omega) (by omega) ?_
        refine aw_istore (L2 := [_, _, _, _, _, _, _, _]) dX4_ledBy_62 (by decide) rfl rfl ?_
        refine aw_iinc (L2 := [_, _, _, _, _, _, _, _]) dX4_ledBy_64 rfl (by decide) rfl rfl ?_
        refine aw_goto (tg := 9) dX4_ledBy_67 (by decide) ?_
        refine ih (a + 1) _ _ (by omega) (by omega) ?_ ?_
        · rw [sI_s _ h0, ← em]
          unfold led
          first
            | (rw [if_neg (fun q => h24 q.1)]; omega)
            | (rw [if_neg (fun q => h30 (ez.trans q.2))]; omega)
            | (rw [if_pos ⟨h24, ez ▸ h30⟩, if_pos h37])
            | (rw [if_pos ⟨h24, ez ▸ h30⟩, if_neg h37])
        · rw [rk_s h0]
          first
            | (rw [if_neg h24, ez, Int.add_zero])
            | (rw [if_pos h24, ez, p_turn hr.1 (by omega)])
      · refine aw_iload dX4_ledBy_33 rfl ?_
        refine aw_iload dX4_ledBy_35 rfl ?_
        refine aw_ifeq_b (tg := 50) dX4_ledBy_37 (by decide) (fun h37 => ?_) (fun h37 => ?_)
        · refine aw_iconst dX4_ledBy_50 ?_
          try rw [hpa]
          refine aw_iadd dX4_ledBy_51 ?_
          refine aw_istore (L2 := [_, _, _, _, _, _, _, _]) dX4_ledBy_52 (by decide) rfl rfl ?_
          refine aw_aload_n dX4_ledBy_54 rfl ?_
          refine aw_iload_n dX4_ledBy_55 rfl ?_
          refine aw_iload_n dX4_ledBy_56 rfl ?_
          refine aw_iload dX4_ledBy_57 rfl ?_
          refine aw_V3 dX4_ledBy_59 okX4_nextLeader lkX4_63 rfl rfl rfl ?_
          refine tX4_nextLeader_d d hna (by omega) (by omega) ?_
          refine aw_istore (L2 := [_, _, _, _, _, _, _, _]) dX4_ledBy_62 (by decide) rfl rfl ?_
          refine aw_iinc (L2 := [_, _, _, _, _, _, _, _]) dX4_ledBy_64 rfl (by decide) rfl rfl ?_
          refine aw_goto (tg := 9) dX4_ledBy_67 (by decide) ?_
          refine ih (a + 1) _ _ (by omega) (by omega) ?_ ?_
          · rw [sI_s _ h0, ← em]
            unfold led
            first
              | (rw [if_neg (fun q => h24 q.1)]; omega)
              | (rw [if_neg (fun q => h30 (ez.trans q.2))]; omega)
              | (rw [if_pos ⟨h24, ez ▸ h30⟩, if_pos h37])
              | (rw [if_pos ⟨h24, ez ▸ h30⟩, if_neg h37])
          · rw [rk_s h0]
            first
              | (rw [if_neg h24, ez, Int.add_zero])
              | (rw [if_pos h24, ez, p_turn hr.1 (by omega)])
        · refine aw_aload_n dX4_ledBy_40 rfl ?_
          refine aw_getR dX4_ledBy_41 flX4_9 rfl rfl ?_
          refine aw_iload dX4_ledBy_44 rfl ?_
          refine aw_iald dX4_ledBy_46 rfl (by omega) ?_
          refine aw_goto (tg := 51) dX4_ledBy_47 (by decide) ?_
          try rw [hpa]
          refine aw_iadd dX4_ledBy_51 ?_
          refine aw_istore (L2 := [_, _, _, _, _, _, _, _]) dX4_ledBy_52 (by decide) rfl rfl ?_
          refine aw_aload_n dX4_ledBy_54 rfl ?_
          refine aw_iload_n dX4_ledBy_55 rfl ?_
          refine aw_iload_n dX4_ledBy_56 rfl ?_
          refine aw_iload dX4_ledBy_57 rfl ?_
          refine aw_V3 dX4_ledBy_59 okX4_nextLeader lkX4_63 rfl rfl rfl ?_
          refine tX4_nextLeader_d d hna (by omega) (by omega) ?_
          refine aw_istore (L2 := [_, _, _, _, _, _, _, _]) dX4_ledBy_62 (by decide) rfl rfl ?_
          refine aw_iinc (L2 := [_, _, _, _, _, _, _, _]) dX4_ledBy_64 rfl (by decide) rfl rfl ?_
          refine aw_goto (tg := 9) dX4_ledBy_67 (by decide) ?_
          refine ih (a + 1) _ _ (by omega) (by omega) ?_ ?_
          · rw [sI_s _ h0, ← em]
            unfold led
            first
              | (rw [if_neg (fun q => h24 q.1)]; omega)
              | (rw [if_neg (fun q => h30 (ez.trans q.2))]; omega)
              | (rw [if_pos ⟨h24, ez ▸ h30⟩, if_pos h37])
              | (rw [if_pos ⟨h24, ez ▸ h30⟩, if_neg h37])
          · rw [rk_s h0]
            first
              | (rw [if_neg h24, ez, Int.add_zero])
              | (rw [if_pos h24, ez, p_turn hr.1 (by omega)])
theorem tX4_ledBy (d : Nat) {pe di na : Int → Int} {on l e n : Int} {v : Prop} [Decidable v] {g : sp_G} {Q : sp_P} (hl : 0 ≤ l ∧ l ≤ 3) (he : 0 ≤ e ∧ e ≤ 5) (hnn : 0 ≤ n ∧ n ≤ 7) (hv : tV pe di na on) (hpe : rH g 2 0 24 pe) (hdi : rH g 3 0 96 di) (hna : rH g 4 0 24 na) (hQ : Q (some (v_i (sI (led pe di na l e n v) 24))) g) : sp_Met (d + 2) mX4_ledBy [v_r 1, v_i l, v_i e, v_i n, v_i (sp_bl v)] g Q := by
  refine sp_of (L := [_, _, _, _, _, _, _, _]) (by decide) (Nat.le_of_ble_eq_true rfl) rfl rfl ?_
  refine aw_iconst dX4_ledBy_0 ?_
  refine aw_istore (L2 := [_, _, _, _, _, _, _, _]) dX4_ledBy_1 (by decide) rfl rfl ?_
  refine aw_iconst dX4_ledBy_3 ?_
  refine aw_istore (L2 := [_, _, _, _, _, _, _, _]) dX4_ledBy_4 (by decide) rfl rfl ?_
  refine aw_iconst dX4_ledBy_6 ?_
  refine aw_istore (L2 := [_, _, _, _, _, _, _, _]) dX4_ledBy_7 (by decide) rfl rfl ?_
  refine lX4_ledBy d hl he hnn hv hpe hdi hna hQ 24 0 0 0 (by omega) (by omega) rfl ?_
  rfl
/-- town t becomes as town q -/
def sp_sn (g : sp_G) (t q : Nat) : sp_G := fun p j => if p = t then (if j = 3 then g q 3 else g t j) else if p = t + 1 then (if 0 ≤ j ∧ j < 24 then g (q + 1) j else g p j) else if p = t + 2 then (if 0 ≤ j ∧ j < 96 then g (q + 2) j else g p j) else if p = t + 3 then (if 0 ≤ j ∧ j < 24 then g (q + 3) j else g p j) else g p j
theorem tX4_copyFrom (d : Nat) {t q : Nat} {g : sp_G} {Q : sp_P} (hT : sp_isT t) (hq : sp_isT q) (htq : t + 3 < q ∨ q + 3 < t) (hQ : Q none (sp_sn g t q)) : sp_Met (d + 1) mX4_copyFrom [v_r t, v_r q] g Q := by
  refine sp_of (L := [_, _]) (by decide) (Nat.le_of_ble_eq_true rfl) rfl rfl ?_
  refine aw_aload_n dX4_copyFrom_0 rfl ?_
  refine aw_getR dX4_copyFrom_1 flX4_9 hq.1 rfl ?_
  refine aw_iconst dX4_copyFrom_4 ?_
  refine aw_aload_n dX4_copyFrom_5 rfl ?_
  refine aw_getR dX4_copyFrom_6 flX4_9 hT.1 rfl ?_
  refine aw_iconst dX4_copyFrom_9 ?_
  refine aw_bipush dX4_copyFrom_10 (by decide) ?_
  refine aw_copy dX4_copyFrom_12 lkX4_25 hq.2.1 hT.2.1 (by omega) rfl ?_
  refine aw_aload_n dX4_copyFrom_15 rfl ?_
  refine aw_getR dX4_copyFrom_16 flX4_15 hq.1 rfl ?_
  refine aw_iconst dX4_copyFrom_19 ?_
  refine aw_aload_n dX4_copyFrom_20 rfl ?_
  refine aw_getR dX4_copyFrom_21 flX4_15 hT.1 rfl ?_
  refine aw_iconst dX4_copyFrom_24 ?_
  refine aw_bipush dX4_copyFrom_25 (by decide) ?_
  refine aw_copy dX4_copyFrom_27 lkX4_25 hq.2.2.1 hT.2.2.1 (by omega) rfl ?_
  refine aw_aload_n dX4_copyFrom_30 rfl ?_
  refine aw_getR dX4_copyFrom_31 flX4_18 hq.1 rfl ?_
  refine aw_iconst dX4_copyFrom_34 ?_
  refine aw_aload_n dX4_copyFrom_35 rfl ?_
  refine aw_getR dX4_copyFrom_36 flX4_18 hT.1 rfl ?_
  refine aw_iconst dX4_copyFrom_39 ?_
  refine aw_bipush dX4_copyFrom_40 (by decide) ?_
  refine aw_copy dX4_copyFrom_42 lkX4_25 hq.2.2.2 hT.2.2.2 (by omega) rfl ?_
  refine aw_aload_n dX4_copyFrom_45 rfl ?_
  refine aw_aload_n dX4_copyFrom_46 rfl ?_
  refine aw_getI (kz := 3) dX4_copyFrom_47 flX4_21 hq.1 rfl rfl ?_
  refine aw_putI (kz := 3) dX4_copyFrom_50 flX4_21 fi_4_3 hT.1 rfl rfl  ?_
  refine aw_vret dX4_copyFrom_53 rfl ?_
  have e : sp_up (sp_cp (sp_cp (sp_cp g (q + 1) (t + 1) 24) (q + 2) (t + 2) 96) (q + 3) (t + 3) 24) t 3 (sp_cp (sp_cp (sp_cp g (q + 1) (t + 1) 24) (q + 2) (t + 2) 96) (q + 3) (t + 3) 24 q 3) = sp_sn g t q := by
    funext p j
    simp only [sp_up, sp_cp, sp_sn]
    by_cases h0 : p = t
    · subst h0
      have e1 : q ≠ p + 1 := by omega
      have e2 : q ≠ p + 2 := by omega
      have e3 : q ≠ p + 3 := by omega
      simp [e1, e2, e3]
    · by_cases h1 : p = t + 1
      · subst h1
        simp
      · by_cases h2 : p = t + 2
        · subst h2
          have e1 : q + 2 ≠ t + 1 := by omega
          simp [e1]
        · by_cases h3 : p = t + 3
          · subst h3
            have e1 : q + 3 ≠ t + 1 := by omega
            have e2 : q + 3 ≠ t + 2 := by omega
            simp [e1, e2]
          · simp [h0, h1, h2, h3]
  rw [e]
  exact hQ
theorem tX1_keep (d : Nat) {g : sp_G} {Q : sp_P} (hn : 0 ≤ g 5 1 ∧ g 5 1 < 8) (hc : 0 ≤ g 5 2 ∧ g 5 2 ≤ 8) (hQ : Q (some (v_r (7 + 4 * (g 5 1).toNat))) (sp_up (sp_up (sp_sn g (7 + 4 * (g 5 1).toNat) 1) 5 1 ((g 5 1 + 1) % 8)) 5 2 (if g 5 2 < 8 then g 5 2 + 1 else 8))) : sp_Met (d + 2) mX1_keep [v_r 5, v_r 1] g Q := by
  refine sp_of (L := [_, _, _]) (by decide) (Nat.le_of_ble_eq_true rfl) rfl rfl ?_
  have hT := sp_isT_r (n := (g 5 1).toNat) (by omega)
  have hs : ∀ j, sp_sn g (7 + 4 * (g 5 1).toNat) 1 5 j = g 5 j := by
    intro j
    simp only [sp_sn]
    rw [if_neg (by omega), if_neg (by omega), if_neg (by omega), if_neg (by omega)]
  refine aw_aload_n dX1_keep_0 rfl ?_
  refine aw_getR dX1_keep_1 flX1_11 rfl rfl ?_
  refine aw_aload_n dX1_keep_4 rfl ?_
  refine aw_getI (kz := 1) dX1_keep_5 flX1_15 rfl rfl rfl ?_
  refine aw_aald dX1_keep_8 rfl (by omega) ?_
  refine aw_astore_n (L2 := [_, _, _]) dX1_keep_9 (by decide) rfl rfl ?_
  refine aw_aload_n dX1_keep_10 rfl ?_
  refine aw_aload_n dX1_keep_11 rfl ?_
  refine aw_V1 dX1_keep_12 okX4_copyFrom lkX1_23 hT.1 rfl rfl ?_
  refine tX4_copyFrom d hT sp_isT_1 (by omega) ?_
  refine aw_aload_n dX1_keep_15 rfl ?_
  refine aw_aload_n dX1_keep_16 rfl ?_
  refine aw_getI (kz := 1) dX1_keep_17 flX1_15 rfl rfl rfl ?_
  rw [hs]
  refine aw_iconst dX1_keep_20 ?_
  refine aw_iadd dX1_keep_21 ?_
  refine aw_bipush dX1_keep_22 (by decide) ?_
  refine aw_irem dX1_keep_24 (by omega) ?_
  refine aw_putI (kz := 1) dX1_keep_25 flX1_15 fi_1_1 rfl rfl rfl  ?_
  refine aw_aload_n dX1_keep_28 rfl ?_
  refine aw_aload_n dX1_keep_29 rfl ?_
  refine aw_getI (kz := 2) dX1_keep_30 flX1_19 rfl rfl rfl ?_
  rw [sp_up_i _ _ _ _ (by decide), hs]
  refine aw_iconst dX1_keep_33 ?_
  refine aw_iadd dX1_keep_34 ?_
  refine aw_bipush dX1_keep_35 (by decide) ?_
  refine aw_mmin dX1_keep_37 lkX1_27 (by omega) rfl ?_
  refine aw_putI (kz := 2) dX1_keep_40 flX1_19 fi_1_2 rfl rfl rfl  ?_
  refine aw_aload_n dX1_keep_43 rfl ?_
  refine aw_aret dX1_keep_44 rfl ?_
  have e : (if 8 < g 5 2 + 1 then (8 : Int) else g 5 2 + 1) = (if g 5 2 < 8 then g 5 2 + 1 else 8) := by
    by_cases h : g 5 2 < 8
    · rw [if_pos h, if_neg (by omega)]
    · rw [if_neg h, if_pos (by omega)]
  rw [e]
  exact hQ
theorem tX1_takeBack (d : Nat) {g : sp_G} {Q : sp_P} (hn : 0 ≤ g 5 1 ∧ g 5 1 < 8) (hc : 0 < g 5 2 ∧ g 5 2 ≤ 8) (hQ : Q (some (v_i (g 5 2 - 1))) (sp_sn (sp_up (sp_up g 5 1 ((g 5 1 + 7) % 8)) 5 2 (g 5 2 - 1)) 1 (7 + 4 * ((g 5 1 + 7) % 8).toNat))) : sp_Met (d + 2) mX1_takeBack [v_r 5, v_r 1] g Q := by
  refine sp_of (L := [_, _]) (by decide) (Nat.le_of_ble_eq_true rfl) rfl rfl ?_
  have hT := sp_isT_r (n := ((g 5 1 + 7) % 8).toNat) (by omega)
  have hs : ∀ (u : sp_G) (q : Nat) j, sp_sn u 1 q 5 j = u 5 j := by
    intro u q j
    simp only [sp_sn]
    rw [if_neg (by omega), if_neg (by omega), if_neg (by omega), if_neg (by omega)]
  have e8 : (g 5 1 + 8 - 1) % 8 = (g 5 1 + 7) % 8 := by omega
  refine aw_aload_n dX1_takeBack_0 rfl ?_
  refine aw_getI (kz := 2) dX1_takeBack_1 flX1_19 rfl rfl rfl ?_
  refine aw_if_le (tg := 46) dX1_takeBack_4 (by decide) (by omega) (fun h4 => absurd h4 (by omega)) (fun h4 => ?_)
  refine aw_aload_n dX1_takeBack_7 rfl ?_
  refine aw_aload_n dX1_takeBack_8 rfl ?_
  refine aw_getI (kz := 1) dX1_takeBack_9 flX1_15 rfl rfl rfl ?_
  refine aw_bipush dX1_takeBack_12 (by decide) ?_
  refine aw_iadd dX1_takeBack_14 ?_
  refine aw_iconst dX1_takeBack_15 ?_
  refine aw_isub dX1_takeBack_16 ?_
  refine aw_bipush dX1_takeBack_17 (by decide) ?_
  refine aw_irem dX1_takeBack_19 (by omega) ?_
  rw [e8]
  refine aw_putI (kz := 1) dX1_takeBack_20 flX1_15 fi_1_1 rfl rfl rfl  ?_
  refine aw_aload_n dX1_takeBack_23 rfl ?_
  refine aw_dup dX1_takeBack_24 rfl ?_
  refine aw_getI (kz := 2) dX1_takeBack_25 flX1_19 rfl rfl rfl ?_
  rw [sp_up_i _ _ _ _ (by decide)]
  refine aw_iconst dX1_takeBack_28 ?_
  refine aw_isub dX1_takeBack_29 ?_
  refine aw_putI (kz := 2) dX1_takeBack_30 flX1_19 fi_1_2 rfl rfl rfl  ?_
  refine aw_aload_n dX1_takeBack_33 rfl ?_
  refine aw_aload_n dX1_takeBack_34 rfl ?_
  refine aw_getR dX1_takeBack_35 flX1_11 rfl rfl ?_
  refine aw_aload_n dX1_takeBack_38 rfl ?_
  refine aw_getI (kz := 1) dX1_takeBack_39 flX1_15 rfl rfl rfl ?_
  rw [sp_up_i _ _ _ _ (by decide), sp_up_s]
  refine aw_aald dX1_takeBack_42 rfl (by omega) ?_
  refine aw_V1 dX1_takeBack_43 okX4_copyFrom lkX1_23 rfl rfl rfl ?_
  refine tX4_copyFrom d sp_isT_1 hT (by omega) ?_
  refine aw_aload_n dX1_takeBack_46 rfl ?_
  refine aw_getI (kz := 2) dX1_takeBack_47 flX1_19 rfl rfl rfl ?_
  refine aw_iret dX1_takeBack_50 rfl ?_
  rw [hs, sp_up_s]
  exact hQ
