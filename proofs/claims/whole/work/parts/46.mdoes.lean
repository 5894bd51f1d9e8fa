theorem zX6_done (d : Nat) {B : Int} {Z : zZ} {w a b c e : Int} {g : sp_G} {Q : sp_P} (hR : mRep g Z) (hV : zV B Z) (hc : nC w a b c e) (e0 : g 58 0 = a) (e1 : 2 ≤ w → g 58 1 = b) (e2 : w = 2 ∨ w = 3 → g 58 2 = c) (e3 : w = 2 → g 58 3 = e) (hQ : ∀ g2 : sp_G, mRep g2 (zO Z w a b c e) → fCo g g2 → g2 52 7 = g 52 7 → Q none g2) : sp_Met (d + 2) mX6_done [v_r 52, v_i w] g Q := by
  obtain ⟨h0, h1, h2, h3, h4, h5⟩ := hc
  refine sp_of (L := [_, _]) (by decide) (Nat.le_of_ble_eq_true rfl) rfl rfl ?_
  rcases (show w = 0 ∨ w = 1 ∨ w = 2 ∨ w = 3 ∨ w = 4 by omega) with c | c | c | c | c <;> subst c
  · refine aw_iload_n dX6_done_0 rfl ?_
    refine aw_iconst dX6_done_1 ?_
    refine aw_icmp_ge (tg := 22) dX6_done_2 (by decide) (by omega) (fun j2 => absurd j2 (by omega)) (fun j2 => ?_)
    refine aw_aload_n dX6_done_5 rfl ?_
    refine aw_aload_n dX6_done_6 rfl ?_
    refine aw_getR dX6_done_7 flX6_25 rfl rfl ?_
    refine aw_iconst dX6_done_10 ?_
    refine aw_iald dX6_done_11 rfl (by omega) ?_
    rw [e0]
    refine aw_iconst dX6_done_12 ?_
    refine aw_iload_n dX6_done_13 rfl ?_
    refine aw_isub dX6_done_14 ?_
    refine aw_V2 dX6_done_15 okX6_turns lkX6_75 rfl rfl rfl ?_
    refine zX6_turns _ hR hV (h1 (by omega)) (by omega) (fun g2 r2 c2 a2 => ?_)
    refine aw_pop dX6_done_18 rfl ?_
    refine aw_goto (tg := 117) dX6_done_19 (by decide) ?_
    refine aw_vret dX6_done_117 rfl ?_
    exact hQ g2 r2 c2 (a2 7)
  · refine aw_iload_n dX6_done_0 rfl ?_
    refine aw_iconst dX6_done_1 ?_
    refine aw_icmp_ge (tg := 22) dX6_done_2 (by decide) (by omega) (fun j2 => absurd j2 (by omega)) (fun j2 => ?_)
    refine aw_aload_n dX6_done_5 rfl ?_
    refine aw_aload_n dX6_done_6 rfl ?_
    refine aw_getR dX6_done_7 flX6_25 rfl rfl ?_
    refine aw_iconst dX6_done_10 ?_
    refine aw_iald dX6_done_11 rfl (by omega) ?_
    rw [e0]
    refine aw_iconst dX6_done_12 ?_
    refine aw_iload_n dX6_done_13 rfl ?_
    refine aw_isub dX6_done_14 ?_
    refine aw_V2 dX6_done_15 okX6_turns lkX6_75 rfl rfl rfl ?_
    refine zX6_turns _ hR hV (h1 (by omega)) (by omega) (fun g2 r2 c2 a2 => ?_)
    refine aw_pop dX6_done_18 rfl ?_
    refine aw_goto (tg := 117) dX6_done_19 (by decide) ?_
    refine aw_vret dX6_done_117 rfl ?_
    exact hQ g2 r2 c2 (a2 7)
  · refine aw_iload_n dX6_done_0 rfl ?_
    refine aw_iconst dX6_done_1 ?_
    refine aw_icmp_ge (tg := 22) dX6_done_2 (by decide) (by omega) (fun j2 => ?_) (fun j2 => absurd j2 (by omega))
    refine aw_iload_n dX6_done_22 rfl ?_
    refine aw_iconst dX6_done_23 ?_
    refine aw_icmp_ne (tg := 59) dX6_done_24 (by decide) (by omega) (fun j24 => absurd j24 (by omega)) (fun j24 => ?_)
    refine aw_aload_n dX6_done_27 rfl ?_
    refine aw_aload_n dX6_done_28 rfl ?_
    refine aw_getR dX6_done_29 flX6_25 rfl rfl ?_
    refine aw_iconst dX6_done_32 ?_
    refine aw_iald dX6_done_33 rfl (by omega) ?_
    rw [e0]
    refine aw_aload_n dX6_done_34 rfl ?_
    refine aw_getR dX6_done_35 flX6_25 rfl rfl ?_
    refine aw_iconst dX6_done_38 ?_
    refine aw_iald dX6_done_39 rfl (by omega) ?_
    rw [e1 (by omega)]
    refine aw_aload_n dX6_done_40 rfl ?_
    refine aw_getR dX6_done_41 flX6_25 rfl rfl ?_
    refine aw_iconst dX6_done_44 ?_
    refine aw_iald dX6_done_45 rfl (by omega) ?_
    rw [e2 (by omega)]
    refine aw_aload_n dX6_done_46 rfl ?_
    refine aw_getR dX6_done_47 flX6_25 rfl rfl ?_
    refine aw_iconst dX6_done_50 ?_
    refine aw_iald dX6_done_51 rfl (by omega) ?_
    rw [e3 rfl]
    refine aw_V4 dX6_done_52 okX6_lays lkX6_92 rfl rfl rfl ?_
    refine zX6_lays _ hR hV (h1 (by omega)) (h2 (by omega)) (h3 rfl).1 (h3 rfl).2.1 (fun g2 r2 c2 a2 => ?_)
    refine aw_pop dX6_done_55 rfl ?_
    refine aw_goto (tg := 117) dX6_done_56 (by decide) ?_
    refine aw_vret dX6_done_117 rfl ?_
    exact hQ g2 r2 c2 (a2 7)
  · refine aw_iload_n dX6_done_0 rfl ?_
    refine aw_iconst dX6_done_1 ?_
    refine aw_icmp_ge (tg := 22) dX6_done_2 (by decide) (by omega) (fun j2 => ?_) (fun j2 => absurd j2 (by omega))
    refine aw_iload_n dX6_done_22 rfl ?_
    refine aw_iconst dX6_done_23 ?_
    refine aw_icmp_ne (tg := 59) dX6_done_24 (by decide) (by omega) (fun j24 => ?_) (fun j24 => absurd j24 (by omega))
    refine aw_aload_n dX6_done_59 rfl ?_
    refine aw_iload_n dX6_done_60 rfl ?_
    refine aw_iconst dX6_done_61 ?_
    refine aw_icmp_ne (tg := 74) dX6_done_62 (by decide) (by omega) (fun j62 => ?_) (fun j62 => absurd j62 (by omega))
    refine aw_bipush dX6_done_74 (by decide) ?_
    refine aw_bipush dX6_done_76 (by decide) ?_
    refine aw_aload_n dX6_done_78 rfl ?_
    refine aw_getR dX6_done_79 flX6_25 rfl rfl ?_
    refine aw_iconst dX6_done_82 ?_
    refine aw_iald dX6_done_83 rfl (by omega) ?_
    rw [e0]
    refine aw_imul dX6_done_84 ?_
    refine aw_iadd dX6_done_85 ?_
    refine aw_aload_n dX6_done_86 rfl ?_
    refine aw_getR dX6_done_87 flX6_25 rfl rfl ?_
    refine aw_iconst dX6_done_90 ?_
    refine aw_iald dX6_done_91 rfl (by omega) ?_
    rw [e1 (by omega)]
    refine aw_iadd dX6_done_92 ?_
    refine aw_iload_n dX6_done_93 rfl ?_
    refine aw_iconst dX6_done_94 ?_
    refine aw_icmp_ne (tg := 107) dX6_done_95 (by decide) (by omega) (fun j95 => ?_) (fun j95 => absurd j95 (by omega))
    refine aw_aload_n dX6_done_107 rfl ?_
    refine aw_getR dX6_done_108 flX6_25 rfl rfl ?_
    refine aw_iconst dX6_done_111 ?_
    refine aw_iald dX6_done_112 rfl (by omega) ?_
    rw [e2 (by omega)]
    refine aw_V2 dX6_done_113 okX6_becomes lkX6_96 rfl rfl rfl ?_
    refine zX6_names (l := a) (e := b) _ hR hV (h1 (by omega)) (h2 (by omega)) (by omega) (fun g2 r2 c2 a2 => ?_)
    refine aw_pop dX6_done_116 rfl ?_
    refine aw_vret dX6_done_117 rfl ?_
    exact hQ g2 r2 c2 (a2 7)
  · refine aw_iload_n dX6_done_0 rfl ?_
    refine aw_iconst dX6_done_1 ?_
    refine aw_icmp_ge (tg := 22) dX6_done_2 (by decide) (by omega) (fun j2 => ?_) (fun j2 => absurd j2 (by omega))
    refine aw_iload_n dX6_done_22 rfl ?_
    refine aw_iconst dX6_done_23 ?_
    refine aw_icmp_ne (tg := 59) dX6_done_24 (by decide) (by omega) (fun j24 => ?_) (fun j24 => absurd j24 (by omega))
    refine aw_aload_n dX6_done_59 rfl ?_
    refine aw_iload_n dX6_done_60 rfl ?_
    refine aw_iconst dX6_done_61 ?_
    refine aw_icmp_ne (tg := 74) dX6_done_62 (by decide) (by omega) (fun j62 => absurd j62 (by omega)) (fun j62 => ?_)
    refine aw_aload_n dX6_done_65 rfl ?_
    refine aw_getR dX6_done_66 flX6_25 rfl rfl ?_
    refine aw_iconst dX6_done_69 ?_
    refine aw_iald dX6_done_70 rfl (by omega) ?_
    rw [e0]
    refine aw_goto (tg := 93) dX6_done_71 (by decide) ?_
    refine aw_iload_n dX6_done_93 rfl ?_
    refine aw_iconst dX6_done_94 ?_
    refine aw_icmp_ne (tg := 107) dX6_done_95 (by decide) (by omega) (fun j95 => absurd j95 (by omega)) (fun j95 => ?_)
    refine aw_aload_n dX6_done_98 rfl ?_
    refine aw_getR dX6_done_99 flX6_25 rfl rfl ?_
    refine aw_iconst dX6_done_102 ?_
    refine aw_iald dX6_done_103 rfl (by omega) ?_
    rw [e1 (by omega)]
    refine aw_goto (tg := 113) dX6_done_104 (by decide) ?_
    refine aw_V2 dX6_done_113 okX6_becomes lkX6_96 rfl rfl rfl ?_
    refine zX6_voters _ hR hV (h5 rfl).1 (fun g2 r2 c2 a2 => ?_)
    refine aw_pop dX6_done_116 rfl ?_
    refine aw_vret dX6_done_117 rfl ?_
    exact hQ g2 r2 c2 (a2 7)
noncomputable def zD (Z : zZ) : Nat → zZ
  | 0 => zk Z
  | j + 1 => zO (zD Z j) (oWd (zx Z) (zl Z) (sk (zx Z) (zl Z) (gP (zx Z) (zl Z) j))) (nX (zx Z) (zl Z) (sk (zx Z) (zl Z) (gP (zx Z) (zl Z) j)) (oWd (zx Z) (zl Z) (sk (zx Z) (zl Z) (gP (zx Z) (zl Z) j))) 0) (nX (zx Z) (zl Z) (sk (zx Z) (zl Z) (gP (zx Z) (zl Z) j)) (oWd (zx Z) (zl Z) (sk (zx Z) (zl Z) (gP (zx Z) (zl Z) j))) 1) (nX (zx Z) (zl Z) (sk (zx Z) (zl Z) (gP (zx Z) (zl Z) j)) (oWd (zx Z) (zl Z) (sk (zx Z) (zl Z) (gP (zx Z) (zl Z) j))) 2) (nX (zx Z) (zl Z) (sk (zx Z) (zl Z) (gP (zx Z) (zl Z) j)) (oWd (zx Z) (zl Z) (sk (zx Z) (zl Z) (gP (zx Z) (zl Z) j))) 3)
theorem zD_x (Z : zZ) : ∀ j : Nat, zx (zD Z j) = zx Z ∧ zl (zD Z j) = zl Z
  | 0 => ⟨rfl, rfl⟩
  | j + 1 => by
    have ih := zD_x Z j
    rw [zD, (zO_x _ _ _ _ _ _).1, (zO_x _ _ _ _ _ _).2.1]
    exact ih
theorem zD_V {B : Int} {Z : zZ} (hV : zV B Z) : ∀ j : Nat, gB (zx Z) (zl Z) j → zV B (zD Z j)
  | 0, _ => zk_V hV
  | j + 1, h => by
    obtain ⟨a1, a2, a3, a4, a5, a6⟩ := o_w h.2
    exact zO_V (zD_V hV j h.1) (nB_c a2 a4)
theorem gP_30 {B : Int} {Z : zZ} {j : Nat} (hV : zV B Z) (h : gB (zx Z) (zl Z) j) : (4 * (j : Int) ≤ gP (zx Z) (zl Z) j ∧ gP (zx Z) (zl Z) j ≤ (zl Z)) ∧ j ≤ 30 ∧ (gP (zx Z) (zl Z) j ≤ sk (zx Z) (zl Z) (gP (zx Z) (zl Z) j) ∧ sk (zx Z) (zl Z) (gP (zx Z) (zl Z) j) ≤ (zl Z)) := by
  have hx := (zV_x hV).1
  have h1 := gP_b hx.1 j h
  exact ⟨h1, by omega, (sk_b h1.2).1⟩
theorem lX6_goesa (d : Nat) {B : Int} {Z : zZ} {g0 : sp_G} {Q : sp_P} (hV : zV B Z) (hQ1 : ∀ n : Nat, sOK (zx Z) (zl Z) n → ∀ g2 : sp_G, mRep g2 Z → fCo g0 g2 → Q (some (v_i n)) g2) (hQ0 : ∀ f, sF (zx Z) (zl Z) f → ∀ g2 : sp_G, mRep g2 Z → fCo g0 g2 → g2 52 7 = f → Q (some (v_i (-1))) g2) :
    ∀ (n j : Nat) (m : Int) (x : Option sp_V) (g : sp_G), j + n = 31 → gB (zx Z) (zl Z) j → (∀ i : Nat, 1 ≤ i → i < j → sk (zx Z) (zl Z) (gP (zx Z) (zl Z) i) < (zl Z)) → m = j → mRep g Z → fCo g0 g → g 52 7 = (sk (zx Z) (zl Z) (gP (zx Z) (zl Z) j)) → sp_AW mX6_goesThrough (d + 5) 11 [some (v_r 52), some (v_i 0), some (v_i m), x] [] g Q := by
  have hx := zV_x hV
  intro n
  induction n with
  | zero =>
    intro j m x g hn hg hb em hR hc ea
    have g9 := gP_30 hV hg
    omega
  | succ n ih =>
    intro j m x g hn hg hb em hR hc ea
    have g9 := gP_30 hV hg
    have t6 : g 52 6 = (zl Z) := hR.tx.1
    refine aw_aload_n dX6_goesThrough_11 rfl ?_
    refine aw_getI (kz := 7) dX6_goesThrough_12 flX6_118 rfl rfl rfl ?_
    refine aw_aload_n dX6_goesThrough_15 rfl ?_
    refine aw_getI (kz := 6) dX6_goesThrough_16 flX6_115 rfl rfl rfl ?_
    rw [ea, t6]
    refine aw_icmp_lt (tg := 26) dX6_goesThrough_19 (by decide) (by omega) (fun h19 => ?_) (fun h19 => ?_)
    · have hb : ∀ i : Nat, 1 ≤ i → i ≤ j → sk (zx Z) (zl Z) (gP (zx Z) (zl Z) i) < (zl Z) := fun i i0 i1 => by
        by_cases c : i = j
        · rw [c]; exact h19
        · exact hb i i0 (by omega)
      refine aw_aload_n dX6_goesThrough_26 rfl ?_
      refine aw_V0 dX6_goesThrough_27 okX6_order lkX6_141 rfl rfl rfl ?_
      refine zX6_order _ hR hV (p := (sk (zx Z) (zl Z) (gP (zx Z) (zl Z) j))) (q := (sk (zx Z) (zl Z) (gP (zx Z) (zl Z) j))) ea (by omega) (by exact (sk_i g9.1.2).symm) (fun hw g2 f2 n2 e2 => ?_) (fun hw g2 f2 e2 => ?_)
      · obtain ⟨a1, a2, a3, a4, a5, a6⟩ := o_w hw
        refine aw_istore_n (L2 := [_, _, _, _]) dX6_goesThrough_30 (by decide) rfl rfl ?_
        refine aw_iload_n dX6_goesThrough_31 rfl ?_
        refine aw_if_ge (tg := 37) dX6_goesThrough_32 (by decide) (by omega) (fun j32 => ?_) (fun j32 => absurd j32 (by omega))
        refine aw_iload_n dX6_goesThrough_37 rfl ?_
        refine aw_if_eq (tg := 46) dX6_goesThrough_38 (by decide) (by omega) (fun j38 => ?_) (fun j38 => absurd j38 (by omega))
        refine aw_iinc (L2 := [_, _, _, _]) dX6_goesThrough_46 rfl (by decide) rfl rfl ?_
        refine aw_aload_n dX6_goesThrough_49 rfl ?_
        refine aw_V0 dX6_goesThrough_50 okX6_skips lkX6_124 rfl rfl rfl ?_
        have g10 := gP_30 hV (j := j + 1) ⟨hg, hw⟩
        refine zX6_skips _ (hR.sc f2.sc) hV (p := gP (zx Z) (zl Z) (j + 1)) e2 (by omega) (fun g4 f4 n4 e4 => ?_)
        refine aw_goto (tg := 11) dX6_goesThrough_53 (by decide) ?_
        exact ih (j + 1) _ _ _ (by omega) ⟨hg, hw⟩ (fun i i0 i1 => hb i i0 (by omega)) (by omega) ((hR.sc f2.sc).sc f4.sc) ((hc.tr f2.sc.c).tr f4.sc.c) e4
      · refine aw_istore_n (L2 := [_, _, _, _]) dX6_goesThrough_30 (by decide) rfl rfl ?_
        refine aw_iload_n dX6_goesThrough_31 rfl ?_
        refine aw_if_ge (tg := 37) dX6_goesThrough_32 (by decide) (by omega) (fun j32 => absurd j32 (by omega)) (fun j32 => ?_)
        refine aw_iconst dX6_goesThrough_35 ?_
        refine aw_iret dX6_goesThrough_36 rfl ?_
        exact hQ0 _ ⟨j, hg, hb, hw, rfl⟩ g2 (hR.sc f2.sc) (hc.tr f2.sc.c) e2
    · refine aw_iload_n dX6_goesThrough_22 rfl ?_
      refine aw_if_ne (tg := 56) dX6_goesThrough_23 (by decide) (by omega) (fun h23 => ?_) (fun h23 => ?_)
      · refine aw_iload_n dX6_goesThrough_56 rfl ?_
        refine aw_iret dX6_goesThrough_57 rfl ?_
        rw [em]
        have hj : 1 ≤ j := by omega
        exact hQ1 j ⟨hj, hg, hb, h19⟩ g hR hc
      · have hb : ∀ i : Nat, 1 ≤ i → i ≤ j → sk (zx Z) (zl Z) (gP (zx Z) (zl Z) i) < (zl Z) := fun i i0 i1 => by omega
        refine aw_aload_n dX6_goesThrough_26 rfl ?_
        refine aw_V0 dX6_goesThrough_27 okX6_order lkX6_141 rfl rfl rfl ?_
        refine zX6_order _ hR hV (p := (sk (zx Z) (zl Z) (gP (zx Z) (zl Z) j))) (q := (sk (zx Z) (zl Z) (gP (zx Z) (zl Z) j))) ea (by omega) (by exact (sk_i g9.1.2).symm) (fun hw g2 f2 n2 e2 => ?_) (fun hw g2 f2 e2 => ?_)
        · obtain ⟨a1, a2, a3, a4, a5, a6⟩ := o_w hw
          refine aw_istore_n (L2 := [_, _, _, _]) dX6_goesThrough_30 (by decide) rfl rfl ?_
          refine aw_iload_n dX6_goesThrough_31 rfl ?_
          refine aw_if_ge (tg := 37) dX6_goesThrough_32 (by decide) (by omega) (fun j32 => ?_) (fun j32 => absurd j32 (by omega))
          refine aw_iload_n dX6_goesThrough_37 rfl ?_
          refine aw_if_eq (tg := 46) dX6_goesThrough_38 (by decide) (by omega) (fun j38 => ?_) (fun j38 => absurd j38 (by omega))
          refine aw_iinc (L2 := [_, _, _, _]) dX6_goesThrough_46 rfl (by decide) rfl rfl ?_
          refine aw_aload_n dX6_goesThrough_49 rfl ?_
          refine aw_V0 dX6_goesThrough_50 okX6_skips lkX6_124 rfl rfl rfl ?_
          have g10 := gP_30 hV (j := j + 1) ⟨hg, hw⟩
          refine zX6_skips _ (hR.sc f2.sc) hV (p := gP (zx Z) (zl Z) (j + 1)) e2 (by omega) (fun g4 f4 n4 e4 => ?_)
          refine aw_goto (tg := 11) dX6_goesThrough_53 (by decide) ?_
          exact ih (j + 1) _ _ _ (by omega) ⟨hg, hw⟩ (fun i i0 i1 => hb i i0 (by omega)) (by omega) ((hR.sc f2.sc).sc f4.sc) ((hc.tr f2.sc.c).tr f4.sc.c) e4
        · refine aw_istore_n (L2 := [_, _, _, _]) dX6_goesThrough_30 (by decide) rfl rfl ?_
          refine aw_iload_n dX6_goesThrough_31 rfl ?_
          refine aw_if_ge (tg := 37) dX6_goesThrough_32 (by decide) (by omega) (fun j32 => absurd j32 (by omega)) (fun j32 => ?_)
          refine aw_iconst dX6_goesThrough_35 ?_
          refine aw_iret dX6_goesThrough_36 rfl ?_
          exact hQ0 _ ⟨j, hg, hb, hw, rfl⟩ g2 (hR.sc f2.sc) (hc.tr f2.sc.c) e2
theorem lX6_goesb (d : Nat) {B : Int} {Z : zZ} {g0 : sp_G} {Q : sp_P} (hV : zV B Z) (hQ1 : ∀ n : Nat, sOK (zx Z) (zl Z) n → ∀ g2 : sp_G, mRep g2 (zD Z n) → fCo g0 g2 → Q (some (v_i n)) g2) (n0 : Nat) (hok : sOK (zx Z) (zl Z) n0) :
    ∀ (n j : Nat) (m : Int) (x : Option sp_V) (g : sp_G), j + n = 31 → gB (zx Z) (zl Z) j → (∀ i : Nat, 1 ≤ i → i < j → sk (zx Z) (zl Z) (gP (zx Z) (zl Z) i) < (zl Z)) → m = j → mRep g (zD Z j) → fCo g0 g → g 52 7 = (sk (zx Z) (zl Z) (gP (zx Z) (zl Z) j)) → sp_AW mX6_goesThrough (d + 5) 11 [some (v_r 52), some (v_i 1), some (v_i m), x] [] g Q := by
  have hx := zV_x hV
  intro n
  induction n with
  | zero =>
    intro j m x g hn hg hb em hR hc ea
    have g9 := gP_30 hV hg
    omega
  | succ n ih =>
    intro j m x g hn hg hb em hR hc ea
    have g9 := gP_30 hV hg
    have ex := zD_x Z j
    have hVj := zD_V hV j hg
    have t6 : g 52 6 = (zl Z) := by rw [hR.tx.1, ex.2]
    refine aw_aload_n dX6_goesThrough_11 rfl ?_
    refine aw_getI (kz := 7) dX6_goesThrough_12 flX6_118 rfl rfl rfl ?_
    refine aw_aload_n dX6_goesThrough_15 rfl ?_
    refine aw_getI (kz := 6) dX6_goesThrough_16 flX6_115 rfl rfl rfl ?_
    rw [ea, t6]
    refine aw_icmp_lt (tg := 26) dX6_goesThrough_19 (by decide) (by omega) (fun h19 => ?_) (fun h19 => ?_)
    · have hb : ∀ i : Nat, 1 ≤ i → i ≤ j → sk (zx Z) (zl Z) (gP (zx Z) (zl Z) i) < (zl Z) := fun i i0 i1 => by
        by_cases c : i = j
        · rw [c]; exact h19
        · exact hb i i0 (by omega)
      refine aw_aload_n dX6_goesThrough_26 rfl ?_
      refine aw_V0 dX6_goesThrough_27 okX6_order lkX6_141 rfl rfl rfl ?_
      refine zX6_order _ hR hVj (p := (sk (zx Z) (zl Z) (gP (zx Z) (zl Z) j))) (q := (sk (zx Z) (zl Z) (gP (zx Z) (zl Z) j))) ea (by rw [ex.2]; omega) (by rw [ex.1, ex.2]; exact (sk_i g9.1.2).symm) (fun hw g2 f2 n2 e2 => ?_) (fun hw g2 f2 e2 => ?_)
      · rw [ex.1, ex.2] at hw n2 e2 ⊢
        obtain ⟨a1, a2, a3, a4, a5, a6⟩ := o_w hw
        refine aw_istore_n (L2 := [_, _, _, _]) dX6_goesThrough_30 (by decide) rfl rfl ?_
        refine aw_iload_n dX6_goesThrough_31 rfl ?_
        refine aw_if_ge (tg := 37) dX6_goesThrough_32 (by decide) (by omega) (fun j32 => ?_) (fun j32 => absurd j32 (by omega))
        refine aw_iload_n dX6_goesThrough_37 rfl ?_
        refine aw_if_eq (tg := 46) dX6_goesThrough_38 (by decide) (by omega) (fun j38 => absurd j38 (by omega)) (fun j38 => ?_)
        refine aw_aload_n dX6_goesThrough_41 rfl ?_
        refine aw_iload_n dX6_goesThrough_42 rfl ?_
        refine aw_V1 dX6_goesThrough_43 okX6_done lkX6_144 rfl rfl rfl ?_
        have hcn := nB_c a2 a4
        have kb : ∀ i : Nat, i < kN (oWd (zx Z) (zl Z) (sk (zx Z) (zl Z) (gP (zx Z) (zl Z) j))) → g2 58 i = nX (zx Z) (zl Z) (sk (zx Z) (zl Z) (gP (zx Z) (zl Z) j)) (oWd (zx Z) (zl Z) (sk (zx Z) (zl Z) (gP (zx Z) (zl Z) j))) i := n2
        have k2 : 2 ≤ oWd (zx Z) (zl Z) (sk (zx Z) (zl Z) (gP (zx Z) (zl Z) j)) → 2 ≤ kN (oWd (zx Z) (zl Z) (sk (zx Z) (zl Z) (gP (zx Z) (zl Z) j))) := fun c => by unfold kN; rw [if_neg (by omega), if_neg (by omega)]; split <;> (try split) <;> omega
        have k3 : oWd (zx Z) (zl Z) (sk (zx Z) (zl Z) (gP (zx Z) (zl Z) j)) = 2 ∨ oWd (zx Z) (zl Z) (sk (zx Z) (zl Z) (gP (zx Z) (zl Z) j)) = 3 → 3 ≤ kN (oWd (zx Z) (zl Z) (sk (zx Z) (zl Z) (gP (zx Z) (zl Z) j))) := fun c => by rcases c with c | c <;> rw [c] <;> decide
        have k4 : oWd (zx Z) (zl Z) (sk (zx Z) (zl Z) (gP (zx Z) (zl Z) j)) = 2 → 4 ≤ kN (oWd (zx Z) (zl Z) (sk (zx Z) (zl Z) (gP (zx Z) (zl Z) j))) := fun c => by rw [c]; decide
        have k1 := kN_b (oWd (zx Z) (zl Z) (sk (zx Z) (zl Z) (gP (zx Z) (zl Z) j)))
        refine zX6_done _ (hR.sc f2.sc) hVj hcn (kb 0 (by omega)) (fun c => kb 1 (k2 c)) (fun c => kb 2 (k3 c)) (fun c => kb 3 (k4 c)) (fun g3 r3 c3 a3 => ?_)
        have r3 : mRep g3 (zD Z (j + 1)) := r3
        have e3 := a3.trans e2
        have hVj1 := zD_V hV (j + 1) ⟨hg, hw⟩
        have ex1 := zD_x Z (j + 1)
        refine aw_iinc (L2 := [_, _, _, _]) dX6_goesThrough_46 rfl (by decide) rfl rfl ?_
        refine aw_aload_n dX6_goesThrough_49 rfl ?_
        refine aw_V0 dX6_goesThrough_50 okX6_skips lkX6_124 rfl rfl rfl ?_
        have g10 := gP_30 hV (j := j + 1) ⟨hg, hw⟩
        refine zX6_skips _ r3 hVj1 (p := gP (zx Z) (zl Z) (j + 1)) e3 (by rw [ex1.2]; omega) (fun g4 f4 n4 e4 => ?_)
        rw [ex1.1, ex1.2] at e4
        refine aw_goto (tg := 11) dX6_goesThrough_53 (by decide) ?_
        exact ih (j + 1) _ _ _ (by omega) ⟨hg, hw⟩ (fun i i0 i1 => hb i i0 (by omega)) (by omega) (r3.sc f4.sc) (((hc.tr f2.sc.c).tr c3).tr f4.sc.c) e4
      · rw [ex.1, ex.2] at hw e2
        refine aw_istore_n (L2 := [_, _, _, _]) dX6_goesThrough_30 (by decide) rfl rfl ?_
        refine aw_iload_n dX6_goesThrough_31 rfl ?_
        refine aw_if_ge (tg := 37) dX6_goesThrough_32 (by decide) (by omega) (fun j32 => absurd j32 (by omega)) (fun j32 => ?_)
        refine aw_iconst dX6_goesThrough_35 ?_
        refine aw_iret dX6_goesThrough_36 rfl ?_
        exact absurd ⟨j, hg, hb, hw, rfl⟩ (fun c => sOK_sF hok c)
    · refine aw_iload_n dX6_goesThrough_22 rfl ?_
      refine aw_if_ne (tg := 56) dX6_goesThrough_23 (by decide) (by omega) (fun h23 => ?_) (fun h23 => ?_)
      · refine aw_iload_n dX6_goesThrough_56 rfl ?_
        refine aw_iret dX6_goesThrough_57 rfl ?_
        rw [em]
        have hj : 1 ≤ j := by omega
        exact hQ1 j ⟨hj, hg, hb, h19⟩ g hR hc
      · have hb : ∀ i : Nat, 1 ≤ i → i ≤ j → sk (zx Z) (zl Z) (gP (zx Z) (zl Z) i) < (zl Z) := fun i i0 i1 => by omega
        refine aw_aload_n dX6_goesThrough_26 rfl ?_
        refine aw_V0 dX6_goesThrough_27 okX6_order lkX6_141 rfl rfl rfl ?_
        refine zX6_order _ hR hVj (p := (sk (zx Z) (zl Z) (gP (zx Z) (zl Z) j))) (q := (sk (zx Z) (zl Z) (gP (zx Z) (zl Z) j))) ea (by rw [ex.2]; omega) (by rw [ex.1, ex.2]; exact (sk_i g9.1.2).symm) (fun hw g2 f2 n2 e2 => ?_) (fun hw g2 f2 e2 => ?_)
        · rw [ex.1, ex.2] at hw n2 e2 ⊢
          obtain ⟨a1, a2, a3, a4, a5, a6⟩ := o_w hw
          refine aw_istore_n (L2 := [_, _, _, _]) dX6_goesThrough_30 (by decide) rfl rfl ?_
          refine aw_iload_n dX6_goesThrough_31 rfl ?_
          refine aw_if_ge (tg := 37) dX6_goesThrough_32 (by decide) (by omega) (fun j32 => ?_) (fun j32 => absurd j32 (by omega))
          refine aw_iload_n dX6_goesThrough_37 rfl ?_
          refine aw_if_eq (tg := 46) dX6_goesThrough_38 (by decide) (by omega) (fun j38 => absurd j38 (by omega)) (fun j38 => ?_)
          refine aw_aload_n dX6_goesThrough_41 rfl ?_
          refine aw_iload_n dX6_goesThrough_42 rfl ?_
          refine aw_V1 dX6_goesThrough_43 okX6_done lkX6_144 rfl rfl rfl ?_
          have hcn := nB_c a2 a4
          have kb : ∀ i : Nat, i < kN (oWd (zx Z) (zl Z) (sk (zx Z) (zl Z) (gP (zx Z) (zl Z) j))) → g2 58 i = nX (zx Z) (zl Z) (sk (zx Z) (zl Z) (gP (zx Z) (zl Z) j)) (oWd (zx Z) (zl Z) (sk (zx Z) (zl Z) (gP (zx Z) (zl Z) j))) i := n2
          have k2 : 2 ≤ oWd (zx Z) (zl Z) (sk (zx Z) (zl Z) (gP (zx Z) (zl Z) j)) → 2 ≤ kN (oWd (zx Z) (zl Z) (sk (zx Z) (zl Z) (gP (zx Z) (zl Z) j))) := fun c => by unfold kN; rw [if_neg (by omega), if_neg (by omega)]; split <;> (try split) <;> omega
          have k3 : oWd (zx Z) (zl Z) (sk (zx Z) (zl Z) (gP (zx Z) (zl Z) j)) = 2 ∨ oWd (zx Z) (zl Z) (sk (zx Z) (zl Z) (gP (zx Z) (zl Z) j)) = 3 → 3 ≤ kN (oWd (zx Z) (zl Z) (sk (zx Z) (zl Z) (gP (zx Z) (zl Z) j))) := fun c => by rcases c with c | c <;> rw [c] <;> decide
          have k4 : oWd (zx Z) (zl Z) (sk (zx Z) (zl Z) (gP (zx Z) (zl Z) j)) = 2 → 4 ≤ kN (oWd (zx Z) (zl Z) (sk (zx Z) (zl Z) (gP (zx Z) (zl Z) j))) := fun c => by rw [c]; decide
          have k1 := kN_b (oWd (zx Z) (zl Z) (sk (zx Z) (zl Z) (gP (zx Z) (zl Z) j)))
          refine zX6_done _ (hR.sc f2.sc) hVj hcn (kb 0 (by omega)) (fun c => kb 1 (k2 c)) (fun c => kb 2 (k3 c)) (fun c => kb 3 (k4 c)) (fun g3 r3 c3 a3 => ?_)
          have r3 : mRep g3 (zD Z (j + 1)) := r3
          have e3 := a3.trans e2
          have hVj1 := zD_V hV (j + 1) ⟨hg, hw⟩
          have ex1 := zD_x Z (j + 1)
          refine aw_iinc (L2 := [_, _, _, _]) dX6_goesThrough_46 rfl (by decide) rfl rfl ?_
          refine aw_aload_n dX6_goesThrough_49 rfl ?_
          refine aw_V0 dX6_goesThrough_50 okX6_skips lkX6_124 rfl rfl rfl ?_
          have g10 := gP_30 hV (j := j + 1) ⟨hg, hw⟩
          refine zX6_skips _ r3 hVj1 (p := gP (zx Z) (zl Z) (j + 1)) e3 (by rw [ex1.2]; omega) (fun g4 f4 n4 e4 => ?_)
          rw [ex1.1, ex1.2] at e4
          refine aw_goto (tg := 11) dX6_goesThrough_53 (by decide) ?_
          exact ih (j + 1) _ _ _ (by omega) ⟨hg, hw⟩ (fun i i0 i1 => hb i i0 (by omega)) (by omega) (r3.sc f4.sc) (((hc.tr f2.sc.c).tr c3).tr f4.sc.c) e4
        · rw [ex.1, ex.2] at hw e2
          refine aw_istore_n (L2 := [_, _, _, _]) dX6_goesThrough_30 (by decide) rfl rfl ?_
          refine aw_iload_n dX6_goesThrough_31 rfl ?_
          refine aw_if_ge (tg := 37) dX6_goesThrough_32 (by decide) (by omega) (fun j32 => absurd j32 (by omega)) (fun j32 => ?_)
          refine aw_iconst dX6_goesThrough_35 ?_
          refine aw_iret dX6_goesThrough_36 rfl ?_
          exact absurd ⟨j, hg, hb, hw, rfl⟩ (fun c => sOK_sF hok c)
theorem zX6_goesA (d : Nat) {B : Int} {Z : zZ} {g : sp_G} {Q : sp_P} (hR : mRep g Z) (hV : zV B Z) (hQ1 : ∀ n : Nat, sOK (zx Z) (zl Z) n → ∀ g2 : sp_G, mRep g2 Z → fCo g g2 → Q (some (v_i n)) g2) (hQ0 : ∀ f, sF (zx Z) (zl Z) f → ∀ g2 : sp_G, mRep g2 Z → fCo g g2 → g2 52 7 = f → Q (some (v_i (-1))) g2) : sp_Met (d + 5) mX6_goesThrough [v_r 52, v_i 0] g Q := by
  have hx := (zV_x hV).1
  refine sp_of (L := [_, _, _, _]) (by decide) (Nat.le_of_ble_eq_true rfl) rfl rfl ?_
  refine aw_iconst dX6_goesThrough_0 ?_
  refine aw_istore_n (L2 := [_, _, _, _]) dX6_goesThrough_1 (by decide) rfl rfl ?_
  refine aw_aload_n dX6_goesThrough_2 rfl ?_
  refine aw_iconst dX6_goesThrough_3 ?_
  refine aw_putI (kz := 7) dX6_goesThrough_4 flX6_118 fi_6_7 rfl rfl rfl  ?_
  refine aw_aload_n dX6_goesThrough_7 rfl ?_
  refine aw_V0 dX6_goesThrough_8 okX6_skips lkX6_124 rfl rfl rfl ?_
  refine zX6_skips _ (hR.sc atM.rf.at.sc) hV (p := 0) (sp_up_s _ _ _ _) (by omega) (fun g1 f1 n1 e1 => ?_)
  exact lX6_goesa _ hV hQ1 hQ0 31 0 0 _ _ (by omega) trivial (fun i i0 i1 => by omega) rfl ((hR.sc atM.rf.at.sc).sc f1.sc) (atM.rf.at.sc.c.tr f1.sc.c) e1
theorem zX6_goesB (d : Nat) {B : Int} {Z : zZ} {g : sp_G} {Q : sp_P} (hR : mRep g (zk Z)) (hV : zV B Z) (n0 : Nat) (hok : sOK (zx Z) (zl Z) n0) (hQ1 : ∀ n : Nat, sOK (zx Z) (zl Z) n → ∀ g2 : sp_G, mRep g2 (zD Z n) → fCo g g2 → Q (some (v_i n)) g2) : sp_Met (d + 5) mX6_goesThrough [v_r 52, v_i 1] g Q := by
  have hx := (zV_x hV).1
  have hVk := zk_V hV
  refine sp_of (L := [_, _, _, _]) (by decide) (Nat.le_of_ble_eq_true rfl) rfl rfl ?_
  refine aw_iconst dX6_goesThrough_0 ?_
  refine aw_istore_n (L2 := [_, _, _, _]) dX6_goesThrough_1 (by decide) rfl rfl ?_
  refine aw_aload_n dX6_goesThrough_2 rfl ?_
  refine aw_iconst dX6_goesThrough_3 ?_
  refine aw_putI (kz := 7) dX6_goesThrough_4 flX6_118 fi_6_7 rfl rfl rfl  ?_
  refine aw_aload_n dX6_goesThrough_7 rfl ?_
  refine aw_V0 dX6_goesThrough_8 okX6_skips lkX6_124 rfl rfl rfl ?_
  refine zX6_skips _ (hR.sc atM.rf.at.sc) hVk (p := 0) (sp_up_s _ _ _ _) (by show 0 ≤ 0 ∧ 0 ≤ (zl Z); omega) (fun g1 f1 n1 e1 => ?_)
  exact lX6_goesb _ hV hQ1 n0 hok 31 0 0 _ _ (by omega) trivial (fun i i0 i1 => by omega) rfl ((hR.sc atM.rf.at.sc).sc f1.sc) (atM.rf.at.sc.c.tr f1.sc.c) e1
theorem rX6_does (d : Nat) {B : Int} {Z : zZ} {g : sp_G} {Q : sp_P} (hR : mRep g Z) (hV : zV B Z) (hQ1 : ∀ n : Nat, sOK (zx Z) (zl Z) n → ∀ g2 : sp_G, mRep g2 (zD Z n) → fCo g g2 → Q (some (v_i n)) g2) (hQ0 : ∀ f, sF (zx Z) (zl Z) f → ∀ g2 : sp_G, mRep g2 Z → fCo g g2 → Q (some (v_i (-10 - f))) g2) : sp_Met (d + 8) mX6_does [v_r 52] g Q := by
  refine sp_of (L := [_]) (by decide) (Nat.le_of_ble_eq_true rfl) rfl rfl ?_
  refine aw_aload_n dX6_does_0 rfl ?_
  refine aw_iconst dX6_does_1 ?_
  refine aw_V1 dX6_does_2 okX6_goesThrough lkX6_148 rfl rfl rfl ?_
  refine zX6_goesA _ hR hV (fun n hn g1 r1 c1 => ?_) (fun f hf g1 r1 c1 e1 => ?_)
  · have n30 := sOK_b (zV_x hV).1 hn
    refine aw_if_ge (tg := 16) dX6_does_5 (by decide) (by omega) (fun h5 => ?_) (fun h5 => absurd h5 (by omega))
    refine aw_aload_n dX6_does_16 rfl ?_
    refine aw_V0 dX6_does_17 okX6_keeps lkX6_72 rfl rfl rfl ?_
    refine tX6_keepsZ _ r1 hV (fun g2 r2 c2 => ?_)
    refine aw_aload_n dX6_does_20 rfl ?_
    refine aw_iconst dX6_does_21 ?_
    refine aw_V1 dX6_does_22 okX6_goesThrough lkX6_148 rfl rfl rfl ?_
    refine zX6_goesB _ r2 hV n hn (fun m hm g3 r3 c3 => ?_)
    refine aw_iret dX6_does_25 rfl ?_
    exact hQ1 m hm g3 r3 ((c1.tr c2).tr c3)
  · refine aw_if_ge (tg := 16) dX6_does_5 (by decide) (by omega) (fun h5 => absurd h5 (by omega)) (fun h5 => ?_)
    refine aw_bipush dX6_does_8 (by decide) ?_
    refine aw_aload_n dX6_does_10 rfl ?_
    refine aw_getI (kz := 7) dX6_does_11 flX6_118 rfl rfl rfl ?_
    rw [e1]
    refine aw_isub dX6_does_14 ?_
    refine aw_iret dX6_does_15 rfl ?_
    exact hQ0 f hf g1 r1 c1
