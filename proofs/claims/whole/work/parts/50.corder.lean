theorem num_all : ∀ w : Nat, w < 5 → (sp_num 0).getD w 0 = (kN w : Nat) ∧ ∀ i : Nat, i < 4 → i < kN w → (sp_num 2).getD (w * 4 + i) 0 = loL w i ∧ (sp_num 1).getD (w * 4 + i) 0 = hiL w i := by decide +kernel
theorem num_k {w : Int} (hw : 0 ≤ w ∧ w < 5) : (sp_num 0).getD w.toNat 0 = (kN w : Nat) := by
  have := (num_all w.toNat (by omega)).1
  rwa [Int.toNat_of_nonneg hw.1] at this
theorem num_b {w : Int} {i : Nat} (hw : 0 ≤ w ∧ w < 5) (hi : i < kN w) : (sp_num 2).getD (w * 4 + i).toNat 0 = loL w i ∧ (sp_num 1).getD (w * 4 + i).toNat 0 = hiL w i := by
  have hk := kN_b w
  have := (num_all w.toNat (by omega)).2 i (by omega) (by rw [Int.toNat_of_nonneg hw.1]; exact hi)
  rwa [Int.toNat_of_nonneg hw.1, show w.toNat * 4 + i = (w * 4 + i).toNat by omega] at this
theorem lo_b (w : Int) (i : Nat) : (0 ≤ loL w i ∧ loL w i ≤ 1) ∧ (0 ≤ hiL w i ∧ hiL w i ≤ 99) := by
  unfold loL hiL
  repeat' split
  all_goals omega
theorem zX2_isAsTold (d : Nat) {r w v a : Int} {i : Nat} {g : sp_G} {Q : sp_P} (hr : 0 ≤ r ∧ r ≤ 145) (hw : 0 ≤ w ∧ w < 5) (hi : i < kN w) (e0 : g 51 r = w) (e1 : g 51 (r + 1 + i) = v) (hv : -1 ≤ v ∧ v ≤ 99) (ea : w = 2 ∧ i = 3 → g 51 (r + 3) = a ∧ 0 ≤ a ∧ a ≤ 23)
    (hQ : ∀ b : Int, (b = 1 → (loL w i ≤ v ∧ v ≤ hiL w i) ∧ (w = 2 ∧ i = 3 → a / 4 ≤ v / 4 ∧ a % 4 ≤ v % 4)) → (b ≠ 1 → ¬ ((loL w i ≤ v ∧ v ≤ hiL w i) ∧ (w = 2 ∧ i = 3 → a / 4 ≤ v / 4 ∧ a % 4 ≤ v % 4))) → Q (some (v_i (sp_bl (b = 1)))) g) : sp_Met (d + 3) mX2_isAsTold [v_r 49, v_i r, v_i i] g Q := by
  have hk := kN_b w
  have nb9 := num_b hw hi
  have lb := lo_b w i
  have e4 : w = 2 ∧ i = 3 → g 51 (r + 4) = v := fun c => by rw [← e1]; congr 1; omega
  refine sp_of (L := [_, _, _, _, _]) (by decide) (Nat.le_of_ble_eq_true rfl) rfl rfl ?_
  refine aw_aload_n dX2_isAsTold_0 rfl ?_
  refine aw_getR dX2_isAsTold_1 flX2_19 rfl rfl ?_
  refine aw_iload_n dX2_isAsTold_4 rfl ?_
  refine aw_iald dX2_isAsTold_5 rfl (by omega) ?_
  rw [e0]
  refine aw_istore_n (L2 := [_, _, _, _, _]) dX2_isAsTold_6 (by decide) rfl rfl ?_
  refine aw_iload_n dX2_isAsTold_7 rfl ?_
  refine aw_iconst dX2_isAsTold_8 ?_
  refine aw_imul dX2_isAsTold_9 ?_
  refine aw_iload_n dX2_isAsTold_10 rfl ?_
  refine aw_iadd dX2_isAsTold_11 ?_
  refine aw_istore (L2 := [_, _, _, _, _]) dX2_isAsTold_12 (by decide) rfl rfl ?_
  refine aw_aload_n dX2_isAsTold_14 rfl ?_
  refine aw_getR dX2_isAsTold_15 flX2_19 rfl rfl ?_
  refine aw_iload_n dX2_isAsTold_18 rfl ?_
  refine aw_iconst dX2_isAsTold_19 ?_
  refine aw_iadd dX2_isAsTold_20 ?_
  refine aw_iload_n dX2_isAsTold_21 rfl ?_
  refine aw_iadd dX2_isAsTold_22 ?_
  refine aw_iald dX2_isAsTold_23 rfl (by omega) ?_
  rw [e1]
  refine aw_gets (k := 2) dX2_isAsTold_24 (by decide) flX2_59 ?_
  refine aw_iload dX2_isAsTold_27 rfl ?_
  refine aw_xald (k := 2) dX2_isAsTold_29 (by decide) (by show 0 ≤ w * 4 + ↑i ∧ w * 4 + ↑i < 20; omega) ?_
  rw [nb9.1]
  refine aw_gets (k := 1) dX2_isAsTold_30 (by decide) flX2_62 ?_
  refine aw_iload dX2_isAsTold_33 rfl ?_
  refine aw_xald (k := 1) dX2_isAsTold_35 (by decide) (by show 0 ≤ w * 4 + ↑i ∧ w * 4 + ↑i < 20; omega) ?_
  rw [nb9.2]
  refine aw_N3 dX2_isAsTold_36 okX5_within lkX2_65 rfl ?_
  refine tX5_within _ (by omega) ?_
  refine aw_ifne_b (tg := 44) dX2_isAsTold_39 (by decide) (fun h39 => ?_) (fun h39 => ?_)
  · refine aw_iload_n dX2_isAsTold_44 rfl ?_
    refine aw_iconst dX2_isAsTold_45 ?_
    refine aw_icmp_ne (tg := 76) dX2_isAsTold_46 (by decide) (by omega) (fun h46 => ?_) (fun h46 => ?_)
    · refine aw_iconst dX2_isAsTold_76 ?_
      refine aw_goto (tg := 81) dX2_isAsTold_77 (by decide) ?_
      refine aw_zret dX2_isAsTold_81 rfl (by omega) ?_
      exact hQ 1 (fun _ => ⟨h39, fun c => absurd c.1 h46⟩) (fun c => absurd rfl c)
    · refine aw_iload_n dX2_isAsTold_49 rfl ?_
      refine aw_iconst dX2_isAsTold_50 ?_
      refine aw_icmp_ne (tg := 76) dX2_isAsTold_51 (by decide) (by omega) (fun h51 => ?_) (fun h51 => ?_)
      · refine aw_iconst dX2_isAsTold_76 ?_
        refine aw_goto (tg := 81) dX2_isAsTold_77 (by decide) ?_
        refine aw_zret dX2_isAsTold_81 rfl (by omega) ?_
        exact hQ 1 (fun _ => ⟨h39, fun c => absurd (by have := c.2; omega) h51⟩) (fun c => absurd rfl c)
      · refine aw_aload_n dX2_isAsTold_54 rfl ?_
        refine aw_getR dX2_isAsTold_55 flX2_19 rfl rfl ?_
        refine aw_iload_n dX2_isAsTold_58 rfl ?_
        refine aw_iconst dX2_isAsTold_59 ?_
        refine aw_iadd dX2_isAsTold_60 ?_
        refine aw_iald dX2_isAsTold_61 rfl (by omega) ?_
        have ea9 := ea ⟨by omega, by omega⟩
        rw [ea9.1]
        refine aw_aload_n dX2_isAsTold_62 rfl ?_
        refine aw_getR dX2_isAsTold_63 flX2_19 rfl rfl ?_
        refine aw_iload_n dX2_isAsTold_66 rfl ?_
        refine aw_iconst dX2_isAsTold_67 ?_
        refine aw_iadd dX2_isAsTold_68 ?_
        refine aw_iald dX2_isAsTold_69 rfl (by omega) ?_
        rw [e4 ⟨by omega, by omega⟩]
        refine aw_N2 dX2_isAsTold_70 okX5_isRectangle lkX2_69 rfl ?_
        refine tX5_isRectangle _ (by omega) ?_
        refine aw_ifeq_b (tg := 80) dX2_isAsTold_73 (by decide) (fun h73 => ?_) (fun h73 => ?_)
        · refine aw_iconst dX2_isAsTold_80 ?_
          refine aw_zret dX2_isAsTold_81 rfl (by omega) ?_
          have h22 : hiL w i = 23 := by
            rw [h46, show i = 3 by omega]
            rfl
          exact hQ 0 (fun c => by omega) (fun _ c => h73 ⟨by omega, by omega, c.2 ⟨h46, by omega⟩⟩)
        · refine aw_iconst dX2_isAsTold_76 ?_
          refine aw_goto (tg := 81) dX2_isAsTold_77 (by decide) ?_
          refine aw_zret dX2_isAsTold_81 rfl (by omega) ?_
          exact hQ 1 (fun _ => ⟨h39, fun c => h73.2.2⟩) (fun c => absurd rfl c)
  · refine aw_iconst dX2_isAsTold_42 ?_
    refine aw_zret dX2_isAsTold_43 rfl (by omega) ?_
    exact hQ 0 (fun c => by omega) (fun _ c => h39 c.1)
theorem nK_k {x : Int → Int} {N p lo hi : Int} (h : nK x N p lo hi) : kd x N (sk x N p) = 2 := by
  by_cases c : kd x N (sk x N p) = 2
  · exact c
  · exfalso
    have h2 := h.1.1
    have e : nE x N p = sk x N p := rn_n (fun k => c (kd_2.1.2 k))
    omega
theorem nV_b {B : Int} {Z : zZ} {p : Int} (hV : zV B Z) (hp : 0 ≤ p ∧ p ≤ (zl Z)) (hs : sk (zx Z) (zl Z) p < nE (zx Z) (zl Z) p) (he : nE (zx Z) (zl Z) p ≤ sk (zx Z) (zl Z) p + 2) : 0 ≤ nV (zx Z) (zl Z) p ∧ nV (zx Z) (zl Z) p ≤ 99 := by
  have h1 := rn_p (lo := 48) (hi := 57) (x := (zx Z)) (sk_b (x := (zx Z)) hp.2).1.2
  have h2 := h1.2.1 (sk (zx Z) (zl Z) p) (by omega) hs
  unfold nV
  rcases (show nE (zx Z) (zl Z) p - sk (zx Z) (zl Z) p = 0 + 1 ∨ nE (zx Z) (zl Z) p - sk (zx Z) (zl Z) p = 0 + 1 + 1 by omega) with e | e
  · rw [e, dv_s (by omega), show dv (zx Z) (sk (zx Z) (zl Z) p) 0 = 0 from rfl, Int.add_zero]
    omega
  · have h3 := h1.2.1 (sk (zx Z) (zl Z) p + 1) (by omega) (by unfold nE at e; omega)
    rw [e, dv_s (by omega), dv_s (by omega), show dv (zx Z) (sk (zx Z) (zl Z) p) 0 = 0 from rfl, Int.add_zero, show sk (zx Z) (zl Z) p + (0 + 1) = sk (zx Z) (zl Z) p + 1 by omega]
    omega
theorem lX2_readOrder (d : Nat) {B : Int} {Z : zZ} {q w c : Int} {g0 : sp_G} {Q : sp_P} (hR : cRep g0 Z) (hV : zV B Z) (hq : 0 ≤ q ∧ q ≤ (zl Z)) (hc : 0 ≤ c ∧ c < 30) (hw : 0 ≤ w ∧ w < 5) (ew : wF (zx Z) (zl Z) q = w) (hm : wM (zx Z) (zl Z) q w) (hQ1 : oWd (zx Z) (zl Z) q ≠ -1 → ∀ g2 : sp_G, scS g0 g2 → g2 49 3 = c → g2 49 6 = oEn (zx Z) (zl Z) q → (∀ j, j < 5 * c → g2 51 j = g0 51 j) → g2 51 (5 * c) = oWd (zx Z) (zl Z) q → (∀ i : Nat, i < kN (oWd (zx Z) (zl Z) q) → g2 51 (5 * c + 1 + i) = nX (zx Z) (zl Z) q (oWd (zx Z) (zl Z) q) i) → Q (some (v_i (-1))) g2) (hQ0 : oWd (zx Z) (zl Z) q = -1 → ∀ g2 : sp_G, scS g0 g2 → Q (some (v_i (oEn (zx Z) (zl Z) q))) g2) :
    ∀ (n i : Nat) (m : Int) (g : sp_G), i + n = kN w → m = i → nB (zx Z) (zl Z) q w i → scS g0 g → g 49 3 = c → g 49 6 = (nP (zx Z) (zl Z) q w i) → (∀ j, j < 5 * c → g 51 j = g0 51 j) → g 51 (5 * c) = w → (∀ k : Nat, k < i → g 51 (5 * c + 1 + k) = nX (zx Z) (zl Z) q w k) → sp_AW mX2_readOrder (d + 6) 43 [some (v_r 49), some (v_i w), some (v_i (5 * c)), some (v_i m)] [] g Q := by
  have hx := zV_x hV
  have hk := kN_b w
  have nk := num_k hw
  have wb := wl_b w
  intro n
  induction n with
  | zero =>
    intro i m g hn em hB hs e3 e6 hold e51 hnum
    have ei : i = kN w := by omega
    have hpb := nP_b (x := (zx Z)) hm.1 i
    have hsb := (sk_b (x := (zx Z)) hpb.2).1
    rw [ei] at hB hnum
    refine aw_iload_n dX2_readOrder_43 rfl ?_
    refine aw_gets (k := 0) dX2_readOrder_44 (by decide) flX2_49 ?_
    refine aw_iload_n dX2_readOrder_47 rfl ?_
    refine aw_xald (k := 0) dX2_readOrder_48 (by decide) (by show 0 ≤ w ∧ w < 5; exact hw) ?_
    rw [nk]
    refine aw_icmp_ge (tg := 103) dX2_readOrder_49 (by decide) (by omega) (fun h49 => ?_) (fun h49 => absurd h49 (by omega))
    refine aw_aload_n dX2_readOrder_103 rfl ?_
    refine aw_V0 dX2_readOrder_104 okX2_readPiece lkX2_39 rfl rfl rfl ?_
    refine zX2_readPiece _ (hR.sc hs.f) hV (p := nP (zx Z) (zl Z) q w i) e6 (by omega) (fun g2 f2 p2 => ?_)
    have s2 := hs.tr f2.s
    have kb := kd_b (zx Z) (zl Z) (sk (zx Z) (zl Z) (nP (zx Z) (zl Z) q w i))
    have hb9 : (sk (zx Z) (zl Z) (nP (zx Z) (zl Z) q w i)) < (zl Z) → g2 50 (sk (zx Z) (zl Z) (nP (zx Z) (zl Z) q w i)) = (zx Z) (sk (zx Z) (zl Z) (nP (zx Z) (zl Z) q w i)) := fun h8 => by rw [s2.1 50 (by decide)]; exact hR.tx.2 _ _ (by omega) h8 (by omega)
    refine aw_aload_n dX2_readOrder_107 rfl ?_
    refine aw_getI (kz := 4) dX2_readOrder_108 flX2_26 rfl rfl rfl ?_
    refine aw_iconst dX2_readOrder_111 ?_
    rw [p2.2.1]
    refine aw_icmp_ne (tg := 133) dX2_readOrder_112 (by decide) (by omega) (fun h112 => ?_) (fun h112 => ?_)
    · refine aw_aload_n dX2_readOrder_133 rfl ?_
      refine aw_getI (kz := 5) dX2_readOrder_134 flX2_29 rfl rfl rfl ?_
      refine aw_iret dX2_readOrder_137 rfl ?_
      rw [p2.1]
      have hns : ¬ sg (zx Z) (zl Z) (nP (zx Z) (zl Z) q w (kN w)) := fun c9 => h112 (by rw [ei]; exact (kd_3.1.2 c9).1)
      have ob := o_c ew hw.1 hB hns
      have e9 := hQ0 ob.1 g2 s2
      rw [ob.2] at e9
      rw [ei]
      exact e9
    · refine aw_aload_n dX2_readOrder_115 rfl ?_
      refine aw_getR dX2_readOrder_116 flX2_11 rfl rfl ?_
      refine aw_aload_n dX2_readOrder_119 rfl ?_
      refine aw_getI (kz := 5) dX2_readOrder_120 flX2_29 rfl rfl rfl ?_
      rw [p2.1]
      refine aw_bald dX2_readOrder_123 rfl (by have := kd_3.2.1 h112; omega) ?_
      rw [hb9 (kd_3.2.1 h112).1]
      have xb := hx.2 (sk (zx Z) (zl Z) (nP (zx Z) (zl Z) q w i)) (by omega) (kd_3.2.1 h112).1
      refine aw_bipush dX2_readOrder_124 (by decide) ?_
      refine aw_icmp_ne (tg := 133) dX2_readOrder_126 (by decide) (by omega) (fun h126 => ?_) (fun h126 => ?_)
      · refine aw_aload_n dX2_readOrder_133 rfl ?_
        refine aw_getI (kz := 5) dX2_readOrder_134 flX2_29 rfl rfl rfl ?_
        refine aw_iret dX2_readOrder_137 rfl ?_
        rw [p2.1]
        have hns : ¬ sg (zx Z) (zl Z) (nP (zx Z) (zl Z) q w (kN w)) := fun c9 => h126 (by rw [ei]; exact c9.2)
        have ob := o_c ew hw.1 hB hns
        have e9 := hQ0 ob.1 g2 s2
        rw [ob.2] at e9
        rw [ei]
        exact e9
      · refine aw_iconst dX2_readOrder_129 ?_
        refine aw_goto (tg := 137) dX2_readOrder_130 (by decide) ?_
        refine aw_iret dX2_readOrder_137 rfl ?_
        have h112 := h112
        have hsg : sg (zx Z) (zl Z) (nP (zx Z) (zl Z) q w (kN w)) := by rw [← ei]; exact kd_3.1.1 ⟨h112, h126⟩
        have ob := o_d ew hw.1 hB hsg
        have e9 := hQ1 (by rw [ob.1]; omega) g2 s2 (by rw [f2.2.2]; exact e3) (by rw [p2.2.2, (kd_3.2.1 h112).2, ob.2, ei]) (fun j hj => by rw [f2.1 51 (by decide)]; exact hold j hj) (by rw [f2.1 51 (by decide), ob.1]; exact e51) (fun k hk9 => by rw [ob.1] at hk9 ⊢; rw [f2.1 51 (by decide)]; exact hnum k hk9)
        exact e9
  | succ n ih =>
    intro i m g hn em hB hs e3 e6 hold e51 hnum
    have hpb := nP_b (x := (zx Z)) hm.1 i
    have hsb := (sk_b (x := (zx Z)) hpb.2).1
    refine aw_iload_n dX2_readOrder_43 rfl ?_
    refine aw_gets (k := 0) dX2_readOrder_44 (by decide) flX2_49 ?_
    refine aw_iload_n dX2_readOrder_47 rfl ?_
    refine aw_xald (k := 0) dX2_readOrder_48 (by decide) (by show 0 ≤ w ∧ w < 5; exact hw) ?_
    rw [nk]
    refine aw_icmp_ge (tg := 103) dX2_readOrder_49 (by decide) (by omega) (fun h49 => absurd h49 (by omega)) (fun h49 => ?_)
    refine aw_aload_n dX2_readOrder_52 rfl ?_
    refine aw_V0 dX2_readOrder_53 okX2_readPiece lkX2_39 rfl rfl rfl ?_
    refine zX2_readPiece _ (hR.sc hs.f) hV (p := nP (zx Z) (zl Z) q w i) e6 (by omega) (fun g2 f2 p2 => ?_)
    have s2 := hs.tr f2.s
    have kb := kd_b (zx Z) (zl Z) (sk (zx Z) (zl Z) (nP (zx Z) (zl Z) q w i))
    refine aw_aload_n dX2_readOrder_56 rfl ?_
    refine aw_getI (kz := 4) dX2_readOrder_57 flX2_26 rfl rfl rfl ?_
    refine aw_iconst dX2_readOrder_60 ?_
    rw [p2.2.1]
    refine aw_icmp_eq (tg := 69) dX2_readOrder_61 (by decide) (by omega) (fun h61 => ?_) (fun h61 => ?_)
    · refine aw_aload_n dX2_readOrder_69 rfl ?_
      refine aw_getR dX2_readOrder_70 flX2_19 rfl rfl ?_
      refine aw_iload_n dX2_readOrder_73 rfl ?_
      refine aw_iconst dX2_readOrder_74 ?_
      refine aw_iadd dX2_readOrder_75 ?_
      refine aw_iload_n dX2_readOrder_76 rfl ?_
      refine aw_iadd dX2_readOrder_77 ?_
      refine aw_aload_n dX2_readOrder_78 rfl ?_
      refine aw_V0 dX2_readOrder_79 okX2_numberHere lkX2_52 rfl rfl rfl ?_
      have hk2 := h61
      have hb2 : g2 49 6 = nE (zx Z) (zl Z) (nP (zx Z) (zl Z) q w i) := by rw [p2.2.2]; exact kd_2.2 hk2
      have hne := nE_b (x := (zx Z)) hpb.2
      refine zX2_numberHere _ (hR.sc s2.f) hV (q := (sk (zx Z) (zl Z) (nP (zx Z) (zl Z) q w i))) (e := nE (zx Z) (zl Z) (nP (zx Z) (zl Z) q w i)) (by omega) p2.1 hb2 ?_
      have hfig := kd_2.1.1 hk2
      have hlt : (sk (zx Z) (zl Z) (nP (zx Z) (zl Z) q w i)) < nE (zx Z) (zl Z) (nP (zx Z) (zl Z) q w i) := by
        have r1 := rn_y (lo := 48) (hi := 57) (x := (zx Z)) hfig.1 hfig.2
        have r2 := (rn_p (lo := 48) (hi := 57) (x := (zx Z)) (p := (sk (zx Z) (zl Z) (nP (zx Z) (zl Z) q w i)) + 1) (N := (zl Z)) (by omega)).1
        unfold nE
        omega
      have hvb : -1 ≤ (if nE (zx Z) (zl Z) (nP (zx Z) (zl Z) q w i) ≤ (sk (zx Z) (zl Z) (nP (zx Z) (zl Z) q w i)) + 2 then dv (zx Z) (sk (zx Z) (zl Z) (nP (zx Z) (zl Z) q w i)) (nE (zx Z) (zl Z) (nP (zx Z) (zl Z) q w i) - (sk (zx Z) (zl Z) (nP (zx Z) (zl Z) q w i))) else -1) ∧ (if nE (zx Z) (zl Z) (nP (zx Z) (zl Z) q w i) ≤ (sk (zx Z) (zl Z) (nP (zx Z) (zl Z) q w i)) + 2 then dv (zx Z) (sk (zx Z) (zl Z) (nP (zx Z) (zl Z) q w i)) (nE (zx Z) (zl Z) (nP (zx Z) (zl Z) q w i) - (sk (zx Z) (zl Z) (nP (zx Z) (zl Z) q w i))) else -1) ≤ 99 := by
        split
        · have := nV_b hV ⟨by omega, hpb.2⟩ hlt (by assumption)
          unfold nV at this
          omega
        · omega
      have hve : nE (zx Z) (zl Z) (nP (zx Z) (zl Z) q w i) ≤ (sk (zx Z) (zl Z) (nP (zx Z) (zl Z) q w i)) + 2 → (if nE (zx Z) (zl Z) (nP (zx Z) (zl Z) q w i) ≤ (sk (zx Z) (zl Z) (nP (zx Z) (zl Z) q w i)) + 2 then dv (zx Z) (sk (zx Z) (zl Z) (nP (zx Z) (zl Z) q w i)) (nE (zx Z) (zl Z) (nP (zx Z) (zl Z) q w i) - (sk (zx Z) (zl Z) (nP (zx Z) (zl Z) q w i))) else -1) = nX (zx Z) (zl Z) q w i := fun c9 => by rw [if_pos c9]; rfl
      have hvn : ¬ nE (zx Z) (zl Z) (nP (zx Z) (zl Z) q w i) ≤ (sk (zx Z) (zl Z) (nP (zx Z) (zl Z) q w i)) + 2 → (if nE (zx Z) (zl Z) (nP (zx Z) (zl Z) q w i) ≤ (sk (zx Z) (zl Z) (nP (zx Z) (zl Z) q w i)) + 2 then dv (zx Z) (sk (zx Z) (zl Z) (nP (zx Z) (zl Z) q w i)) (nE (zx Z) (zl Z) (nP (zx Z) (zl Z) q w i) - (sk (zx Z) (zl Z) (nP (zx Z) (zl Z) q w i))) else -1) = -1 := fun c9 => by rw [if_neg c9]
      generalize (if nE (zx Z) (zl Z) (nP (zx Z) (zl Z) q w i) ≤ (sk (zx Z) (zl Z) (nP (zx Z) (zl Z) q w i)) + 2 then dv (zx Z) (sk (zx Z) (zl Z) (nP (zx Z) (zl Z) q w i)) (nE (zx Z) (zl Z) (nP (zx Z) (zl Z) q w i) - (sk (zx Z) (zl Z) (nP (zx Z) (zl Z) q w i))) else -1) = v at *
      
      refine aw_iast dX2_readOrder_82 rfl (by omega) ?_
      refine aw_aload_n dX2_readOrder_83 rfl ?_
      
      refine aw_iload_n dX2_readOrder_84 rfl ?_
      refine aw_iload_n dX2_readOrder_85 rfl ?_
      refine aw_V2 dX2_readOrder_86 okX2_isAsTold lkX2_55 rfl rfl rfl ?_
      have ea9 : w = 2 ∧ i = 3 → sp_up g2 51 (5 * c + 1 + m) v 51 (5 * c + 3) = nX (zx Z) (zl Z) q w 2 ∧ 0 ≤ nX (zx Z) (zl Z) q w 2 ∧ nX (zx Z) (zl Z) q w 2 ≤ 23 := fun c9 => by
        have h2 := nB_n hB (i := 2) (by omega)
        have h3 := h2.1.2
        have h4 : loL w 2 = 0 ∧ hiL w 2 = 23 := by rw [c9.1]; exact ⟨rfl, rfl⟩
        refine ⟨?_, ?_⟩
        · rw [sp_up_i _ _ _ _ (by omega), f2.1 51 (by decide)]
          have := hnum 2 (by omega)
          rw [← this]
          congr 1
          omega
        · rw [h4.1, h4.2] at h3
          exact h3
      rw [em] at ea9 ⊢
      refine zX2_isAsTold _ (r := 5 * c) (w := w) (v := v) (a := nX (zx Z) (zl Z) q w 2) (i := i) (by omega) hw (by omega) (by rw [sp_up_i _ _ _ _ (by omega), f2.1 51 (by decide)]; exact e51) (sp_up_s _ _ _ _) hvb ea9 (fun b b1 b0 => ?_)
      have s3 : scS g0 (sp_up g2 51 (5 * c + 1 + i) v) := ⟨s2.1.up (by decide), by rw [sp_up_o _ _ _ _ (by decide)]; exact s2.2⟩
      have iff9 : ((loL w i ≤ v ∧ v ≤ hiL w i) ∧ (w = 2 ∧ i = 3 → nX (zx Z) (zl Z) q w 2 / 4 ≤ v / 4 ∧ nX (zx Z) (zl Z) q w 2 % 4 ≤ v % 4)) ↔ nO (zx Z) (zl Z) q w i := by
        have lb := lo_b w i
        by_cases c9 : nE (zx Z) (zl Z) (nP (zx Z) (zl Z) q w i) ≤ (sk (zx Z) (zl Z) (nP (zx Z) (zl Z) q w i)) + 2
        · have ev := hve c9
          rw [ev]
          constructor
          · intro h
            exact ⟨⟨⟨hlt, c9⟩, h.1⟩, fun c8 => by have := h.2 c8; rw [c8.2] at this; exact this⟩
          · intro h
            exact ⟨h.1.2, fun c8 => by have := h.2 c8; rw [c8.2]; exact this⟩
        · have ev := hvn c9
          constructor
          · intro h; omega
          · intro h; exact absurd h.1.1.2 c9
      refine aw_ifne_b (tg := 97) dX2_readOrder_89 (by decide) (fun h89 => ?_) (fun h89 => ?_)
      · refine aw_iinc (L2 := [_, _, _, _]) dX2_readOrder_97 rfl (by decide) rfl rfl ?_
        refine aw_goto (tg := 43) dX2_readOrder_100 (by decide) ?_
        have hO := iff9.1 (b1 h89)
        refine ih (i + 1) _ _ (by omega) (by omega) ⟨hB, hO⟩ s3 (by rw [sp_up_o _ _ _ _ (by decide), f2.2.2]; exact e3) (by rw [sp_up_o _ _ _ _ (by decide), hb2]; rfl) (fun j hj => by rw [sp_up_i _ _ _ _ (by omega), f2.1 51 (by decide)]; exact hold j hj) (by rw [sp_up_i _ _ _ _ (by omega), f2.1 51 (by decide)]; exact e51) (fun k hk9 => ?_)
        by_cases c9 : k = i
        · rw [c9, sp_up_s]
          exact hve hO.1.1.2
        · rw [sp_up_i _ _ _ _ (by omega), f2.1 51 (by decide)]
          exact hnum k (by omega)
      · refine aw_aload_n dX2_readOrder_92 rfl ?_
        refine aw_getI (kz := 5) dX2_readOrder_93 flX2_29 rfl rfl rfl ?_
        refine aw_iret dX2_readOrder_96 rfl ?_
        rw [sp_up_o _ _ _ _ (by decide), p2.1]
        have ob := o_b (i := i) ew hw.1 (by omega) hB (fun c9 => b0 h89 (iff9.2 c9))
        have e9 := hQ0 ob.1 _ s3
        rw [ob.2] at e9
        exact e9
    · refine aw_aload_n dX2_readOrder_64 rfl ?_
      refine aw_getI (kz := 5) dX2_readOrder_65 flX2_29 rfl rfl rfl ?_
      refine aw_iret dX2_readOrder_68 rfl ?_
      rw [p2.1]
      have ob := o_b (i := i) ew hw.1 (by omega) hB (fun c9 => h61 (nK_k c9.1))
      have e9 := hQ0 ob.1 g2 s2
      rw [ob.2] at e9
      exact e9
theorem zX2_readOrder (d : Nat) {B : Int} {Z : zZ} {q c : Int} {g0 : sp_G} {Q : sp_P} (hR : cRep g0 Z) (hV : zV B Z) (hq : 0 ≤ q ∧ q ≤ (zl Z)) (hc : 0 ≤ c ∧ c < 30) (e3 : g0 49 3 = c) (hp : pc g0 (zx Z) (zl Z) q) (hQ1 : oWd (zx Z) (zl Z) q ≠ -1 → ∀ g2 : sp_G, scS g0 g2 → g2 49 3 = c → g2 49 6 = oEn (zx Z) (zl Z) q → (∀ j, j < 5 * c → g2 51 j = g0 51 j) → g2 51 (5 * c) = oWd (zx Z) (zl Z) q → (∀ i : Nat, i < kN (oWd (zx Z) (zl Z) q) → g2 51 (5 * c + 1 + i) = nX (zx Z) (zl Z) q (oWd (zx Z) (zl Z) q) i) → Q (some (v_i (-1))) g2) (hQ0 : oWd (zx Z) (zl Z) q = -1 → ∀ g2 : sp_G, scS g0 g2 → Q (some (v_i (oEn (zx Z) (zl Z) q))) g2) : sp_Met (d + 6) mX2_readOrder [v_r 49] g0 Q := by
  have kb := kd_b (zx Z) (zl Z) q
  have wc := wF_c (zx Z) (zl Z) q
  have hbad : wF (zx Z) (zl Z) q = -1 → Q (some (v_i q)) g0 := fun c9 => by
    have ob := o_a c9
    have e9 := hQ0 ob.1 g0 ⟨sp_fr.rf, rfl⟩
    rwa [ob.2] at e9
  refine sp_of (L := [_, _, _, _]) (by decide) (Nat.le_of_ble_eq_true rfl) rfl rfl ?_
  refine aw_aload_n dX2_readOrder_0 rfl ?_
  refine aw_getI (kz := 4) dX2_readOrder_1 flX2_26 rfl rfl rfl ?_
  refine aw_iconst dX2_readOrder_4 ?_
  rw [hp.2.1]
  refine aw_icmp_ne (tg := 15) dX2_readOrder_5 (by decide) (by omega) (fun h5 => ?_) (fun h5 => ?_)
  · refine aw_iconst dX2_readOrder_15 ?_
    refine aw_istore_n (L2 := [_, _, _, _]) dX2_readOrder_16 (by decide) rfl rfl ?_
    refine aw_iload_n dX2_readOrder_17 rfl ?_
    refine aw_iconst dX2_readOrder_18 ?_
    refine aw_icmp_ne (tg := 27) dX2_readOrder_19 (by decide) (by omega) (fun j19 => absurd j19 (fun c9 => c9 rfl)) (fun j19 => ?_)
    refine aw_aload_n dX2_readOrder_22 rfl ?_
    refine aw_getI (kz := 5) dX2_readOrder_23 flX2_29 rfl rfl rfl ?_
    rw [hp.1]
    refine aw_iret dX2_readOrder_26 rfl ?_
    exact hbad (wF_k h5)
  · refine aw_aload_n dX2_readOrder_8 rfl ?_
    refine aw_V0 dX2_readOrder_9 okX2_orderHere lkX2_46 rfl rfl rfl ?_
    refine zX2_orderHere _ hR hV hq hp h5 ?_
    refine aw_goto (tg := 16) dX2_readOrder_12 (by decide) ?_
    have h5 := h5
    refine aw_istore_n (L2 := [_, _, _, _]) dX2_readOrder_16 (by decide) rfl rfl ?_
    refine aw_iload_n dX2_readOrder_17 rfl ?_
    refine aw_iconst dX2_readOrder_18 ?_
    refine aw_icmp_ne (tg := 27) dX2_readOrder_19 (by decide) (by omega) (fun j19 => ?_) (fun j19 => ?_)
    · refine aw_aload_n dX2_readOrder_27 rfl ?_
      refine aw_getI (kz := 3) dX2_readOrder_28 flX2_23 rfl rfl rfl ?_
      refine aw_iconst dX2_readOrder_31 ?_
      rw [e3]
      refine aw_imul dX2_readOrder_32 ?_
      rw [Int.mul_comm c 5]
      refine aw_istore_n (L2 := [_, _, _, _]) dX2_readOrder_33 (by decide) rfl rfl ?_
      refine aw_aload_n dX2_readOrder_34 rfl ?_
      refine aw_getR dX2_readOrder_35 flX2_19 rfl rfl ?_
      refine aw_iload_n dX2_readOrder_38 rfl ?_
      refine aw_iload_n dX2_readOrder_39 rfl ?_
      refine aw_iast dX2_readOrder_40 rfl (by omega) ?_
      refine aw_iconst dX2_readOrder_41 ?_
      refine aw_istore_n (L2 := [_, _, _, _]) dX2_readOrder_42 (by decide) rfl rfl ?_
      have wc2 : (0 ≤ wF (zx Z) (zl Z) q ∧ wF (zx Z) (zl Z) q < 5) ∧ wM (zx Z) (zl Z) q (wF (zx Z) (zl Z) q) := by
        rcases wc with c9 | c9
        · exact absurd c9 j19
        · exact c9
      have hb6 : g0 49 6 = nP (zx Z) (zl Z) q (wF (zx Z) (zl Z) q) 0 := by
        rw [hp.2.2, (kd_1 h5).2]
        have hh := (wM_H ⟨wc2.1.1, by omega⟩ hq.2).1 wc2.2
        have h1 := hh.1
        show _ = q + wl (wF (zx Z) (zl Z) q)
        omega
      refine lX2_readOrder _ hR hV hq hc wc2.1 rfl wc2.2 hQ1 hQ0 (kN (wF (zx Z) (zl Z) q)) 0 _ _ (by omega) rfl trivial ⟨sp_fr.rf.up (by decide), sp_up_o _ _ _ _ (by decide)⟩ (by rw [sp_up_o _ _ _ _ (by decide)]; exact e3) (by rw [sp_up_o _ _ _ _ (by decide)]; exact hb6) (fun j hj => sp_up_i _ _ _ _ (by omega)) (sp_up_s _ _ _ _) (fun k hk => absurd hk (by omega))
    · refine aw_aload_n dX2_readOrder_22 rfl ?_
      refine aw_getI (kz := 5) dX2_readOrder_23 flX2_29 rfl rfl rfl ?_
      rw [hp.1]
      refine aw_iret dX2_readOrder_26 rfl ?_
      exact hbad j19
