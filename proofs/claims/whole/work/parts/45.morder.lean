theorem lX6_order_0 (d : Nat) {B : Int} {Z : zZ} {q : Int} {g g1 : sp_G} {Q : sp_P} (hR : mRep g Z) (hV : zV B Z) (hq : 0 ≤ q ∧ q ≤ (zl Z)) (ew : wF (zx Z) (zl Z) q = 0) (hm0 : wM (zx Z) (zl Z) q 0) (f1 : atM g g1) (e1 : g1 52 7 = q + wl 0) (hQ1 : oWd (zx Z) (zl Z) q ≠ -1 → ∀ g2 : sp_G, atM g g2 → (∀ i : Nat, i < kN (oWd (zx Z) (zl Z) q) → g2 58 i = nX (zx Z) (zl Z) q (oWd (zx Z) (zl Z) q) i) → g2 52 7 = oEn (zx Z) (zl Z) q → Q (some (v_i (oWd (zx Z) (zl Z) q))) g2) (hQ0 : oWd (zx Z) (zl Z) q = -1 → ∀ g2 : sp_G, atM g g2 → g2 52 7 = oEn (zx Z) (zl Z) q → Q (some (v_i (-1))) g2) : sp_AW mX6_order (d + 4) 4 [some (v_r 52), none, none] [v_i 0] g1 Q := by
  have wb := wl_b 0
  have hx := zV_x hV
  have hm := hm0
  have k0 := nP_b (x := (zx Z)) hm.1 0
  have k1 := nP_b (x := (zx Z)) hm.1 1
  have k2 := nP_b (x := (zx Z)) hm.1 2
  have k3 := nP_b (x := (zx Z)) hm.1 3
  have e1 : g1 52 7 = nP (zx Z) (zl Z) q 0 0 := e1
  refine aw_istore_n (L2 := [_, _, _]) dX6_order_4 (by decide) rfl rfl ?_
  refine aw_iload_n dX6_order_5 rfl ?_
  refine aw_if_lt (tg := 13) dX6_order_6 (by decide) (by omega) (fun h6 => absurd h6 (by omega)) (fun h6 => ?_)
  refine aw_iconst dX6_order_9 ?_
  refine aw_goto (tg := 14) dX6_order_10 (by decide) ?_
  refine aw_istore_n (L2 := [_, _, _]) dX6_order_14 (by decide) rfl rfl ?_
  refine aw_iload_n dX6_order_15 rfl ?_
  refine aw_iconst dX6_order_16 ?_
  refine aw_icmp_ne (tg := 51) dX6_order_17 (by decide) (by omega) (fun h17 => ?_) (fun h17 => absurd h17 (by omega))
  refine aw_iload_n dX6_order_51 rfl ?_
  refine aw_if_eq (tg := 125) dX6_order_52 (by decide) (by omega) (fun h52 => absurd h52 (by omega)) (fun h52 => ?_)
  refine aw_aload_n dX6_order_55 rfl ?_
  refine aw_iconst dX6_order_56 ?_
  refine aw_iconst dX6_order_57 ?_
  refine aw_iconst dX6_order_58 ?_
  refine aw_V3 dX6_order_59 okX6_isNumber lkX6_130 rfl rfl rfl ?_
  refine wX6_isNumber _ (hR.sc f1.sc) hV (p := nP (zx Z) (zl Z) q 0 0) (by omega) e1 (by omega) (by omega) (fun b2 g2 f2 m2 y2 z2 => ?_)
  have f12 := f1.tr f2
  refine aw_ifeq_b (tg := 123) dX6_order_62 (by decide) (fun h62 => ?_) (fun h62 => ?_)
  · refine aw_iconst dX6_order_123 ?_
    refine aw_istore_n (L2 := [_, _, _]) dX6_order_124 (by decide) rfl rfl ?_
    refine aw_iload_n dX6_order_125 rfl ?_
    refine aw_if_ne (tg := 131) dX6_order_126 (by decide) (by omega) (fun j126 => absurd j126 (by omega)) (fun j126 => ?_)
    refine aw_iconst dX6_order_129 ?_
    refine aw_iret dX6_order_130 rfl ?_
    have ob := o_b (i := 0) ew (by omega) (by decide) trivial (fun c => (z2 h62).1 c.1)
    exact hQ0 ob.1 g2 f12 (by rw [ob.2]; exact (z2 h62).2)
  · refine aw_iload_n dX6_order_65 rfl ?_
    refine aw_iconst dX6_order_66 ?_
    refine aw_icmp_lt (tg := 80) dX6_order_67 (by decide) (by omega) (fun h67 => ?_) (fun h67 => absurd h67 (by omega))
    refine aw_iload_n dX6_order_80 rfl ?_
    refine aw_iconst dX6_order_81 ?_
    refine aw_icmp_ne (tg := 103) dX6_order_82 (by decide) (by omega) (fun h82 => ?_) (fun h82 => absurd h82 (by omega))
    refine aw_iload_n dX6_order_103 rfl ?_
    refine aw_iconst dX6_order_104 ?_
    refine aw_icmp_ne (tg := 119) dX6_order_105 (by decide) (by omega) (fun h105 => ?_) (fun h105 => absurd h105 (by omega))
    refine aw_iconst dX6_order_119 ?_
    refine aw_goto (tg := 124) dX6_order_120 (by decide) ?_
    refine aw_istore_n (L2 := [_, _, _]) dX6_order_124 (by decide) rfl rfl ?_
    have y2 := y2 h62
    have hnB : nB (zx Z) (zl Z) q 0 (kN 0) := ⟨trivial, y2.1, fun c => absurd c.2 (by decide)⟩
    have hps := nP_b (x := (zx Z)) hm.1 (kN 0)
    have hs9 := (sk_b (x := (zx Z)) hps.2).1
    refine aw_iload_n dX6_order_125 rfl ?_
    refine aw_if_ne (tg := 131) dX6_order_126 (by decide) (by omega) (fun j126 => ?_) (fun j126 => absurd j126 (by omega))
    refine aw_aload_n dX6_order_131 rfl ?_
    refine aw_V0 dX6_order_132 okX6_skips lkX6_124 rfl rfl rfl ?_
    refine zX6_skips _ (hR.sc (f12).sc) hV (p := nP (zx Z) (zl Z) q 0 (kN 0)) y2.2.2 (by omega) (fun g8 f8 n8 e8 => ?_)
    have bb := bA_b hV (k := sk (zx Z) (zl Z) (nP (zx Z) (zl Z) q 0 (kN 0))) (by omega)
    refine aw_aload_n dX6_order_135 rfl ?_
    refine aw_aload_n dX6_order_136 rfl ?_
    refine aw_getI (kz := 7) dX6_order_137 flX6_118 rfl rfl rfl ?_
    rw [e8]
    refine aw_V1 dX6_order_140 okX6_byteAt lkX6_121 rfl rfl rfl ?_
    refine tX6_byteAt _ ((hR.sc (f12).sc).sc f8.sc) hV (by omega) ?_
    refine aw_bipush dX6_order_143 (by decide) ?_
    refine aw_icmp_eq (tg := 150) dX6_order_145 (by decide) (by omega) (fun j145 => ?_) (fun j145 => ?_)
    · refine aw_aload_n dX6_order_150 rfl ?_
      refine aw_dup dX6_order_151 rfl ?_
      refine aw_getI (kz := 7) dX6_order_152 flX6_118 rfl rfl rfl ?_
      
      refine aw_iconst dX6_order_155 ?_
      rw [e8]
      refine aw_iadd dX6_order_156 ?_
      refine aw_putI (kz := 7) dX6_order_157 flX6_118 fi_6_7 rfl rfl rfl  ?_
      refine aw_iload_n dX6_order_160 rfl ?_
      refine aw_iret dX6_order_161 rfl ?_
      have hsg : sg (zx Z) (zl Z) (nP (zx Z) (zl Z) q 0 (kN 0)) := by
        have c := (bA_i (Z := Z) (k := sk (zx Z) (zl Z) (nP (zx Z) (zl Z) q 0 (kN 0))) (lo := 59) (hi := 59) (by omega)).1 (by omega)
        exact ⟨c.1, by omega⟩
      have ob := o_d ew (by omega) hnB hsg
      have e9 := hQ1 (by rw [ob.1]; omega)
      rw [ob.1, ob.2] at e9
      refine e9 _ ((f12).tr f8).at (fun i hi => ?_) (sp_up_s _ _ _ _)
      rw [sp_up_o _ _ _ _ (by decide), n8 i]
      have i0 : i = 0 := by have : i < 1 := hi; omega
      rw [i0]
      exact y2.2.1
    · refine aw_iconst dX6_order_148 ?_
      refine aw_iret dX6_order_149 rfl ?_
      have hns : ¬ sg (zx Z) (zl Z) (nP (zx Z) (zl Z) q 0 (kN 0)) := fun c => j145 (by unfold bA; rw [if_pos c.1]; exact c.2)
      have ob := o_c ew (by omega) hnB hns
      exact hQ0 ob.1 g8 ((f12).tr f8) (by rw [ob.2]; exact e8)
theorem lX6_order_1 (d : Nat) {B : Int} {Z : zZ} {q : Int} {g g1 : sp_G} {Q : sp_P} (hR : mRep g Z) (hV : zV B Z) (hq : 0 ≤ q ∧ q ≤ (zl Z)) (ew : wF (zx Z) (zl Z) q = 1) (hm0 : wM (zx Z) (zl Z) q 1) (f1 : atM g g1) (e1 : g1 52 7 = q + wl 1) (hQ1 : oWd (zx Z) (zl Z) q ≠ -1 → ∀ g2 : sp_G, atM g g2 → (∀ i : Nat, i < kN (oWd (zx Z) (zl Z) q) → g2 58 i = nX (zx Z) (zl Z) q (oWd (zx Z) (zl Z) q) i) → g2 52 7 = oEn (zx Z) (zl Z) q → Q (some (v_i (oWd (zx Z) (zl Z) q))) g2) (hQ0 : oWd (zx Z) (zl Z) q = -1 → ∀ g2 : sp_G, atM g g2 → g2 52 7 = oEn (zx Z) (zl Z) q → Q (some (v_i (-1))) g2) : sp_AW mX6_order (d + 4) 4 [some (v_r 52), none, none] [v_i 1] g1 Q := by
  have wb := wl_b 1
  have hx := zV_x hV
  have hm := hm0
  have k0 := nP_b (x := (zx Z)) hm.1 0
  have k1 := nP_b (x := (zx Z)) hm.1 1
  have k2 := nP_b (x := (zx Z)) hm.1 2
  have k3 := nP_b (x := (zx Z)) hm.1 3
  have e1 : g1 52 7 = nP (zx Z) (zl Z) q 1 0 := e1
  refine aw_istore_n (L2 := [_, _, _]) dX6_order_4 (by decide) rfl rfl ?_
  refine aw_iload_n dX6_order_5 rfl ?_
  refine aw_if_lt (tg := 13) dX6_order_6 (by decide) (by omega) (fun h6 => absurd h6 (by omega)) (fun h6 => ?_)
  refine aw_iconst dX6_order_9 ?_
  refine aw_goto (tg := 14) dX6_order_10 (by decide) ?_
  refine aw_istore_n (L2 := [_, _, _]) dX6_order_14 (by decide) rfl rfl ?_
  refine aw_iload_n dX6_order_15 rfl ?_
  refine aw_iconst dX6_order_16 ?_
  refine aw_icmp_ne (tg := 51) dX6_order_17 (by decide) (by omega) (fun h17 => ?_) (fun h17 => absurd h17 (by omega))
  refine aw_iload_n dX6_order_51 rfl ?_
  refine aw_if_eq (tg := 125) dX6_order_52 (by decide) (by omega) (fun h52 => absurd h52 (by omega)) (fun h52 => ?_)
  refine aw_aload_n dX6_order_55 rfl ?_
  refine aw_iconst dX6_order_56 ?_
  refine aw_iconst dX6_order_57 ?_
  refine aw_iconst dX6_order_58 ?_
  refine aw_V3 dX6_order_59 okX6_isNumber lkX6_130 rfl rfl rfl ?_
  refine wX6_isNumber _ (hR.sc f1.sc) hV (p := nP (zx Z) (zl Z) q 1 0) (by omega) e1 (by omega) (by omega) (fun b2 g2 f2 m2 y2 z2 => ?_)
  have f12 := f1.tr f2
  refine aw_ifeq_b (tg := 123) dX6_order_62 (by decide) (fun h62 => ?_) (fun h62 => ?_)
  · refine aw_iconst dX6_order_123 ?_
    refine aw_istore_n (L2 := [_, _, _]) dX6_order_124 (by decide) rfl rfl ?_
    refine aw_iload_n dX6_order_125 rfl ?_
    refine aw_if_ne (tg := 131) dX6_order_126 (by decide) (by omega) (fun j126 => absurd j126 (by omega)) (fun j126 => ?_)
    refine aw_iconst dX6_order_129 ?_
    refine aw_iret dX6_order_130 rfl ?_
    have ob := o_b (i := 0) ew (by omega) (by decide) trivial (fun c => (z2 h62).1 c.1)
    exact hQ0 ob.1 g2 f12 (by rw [ob.2]; exact (z2 h62).2)
  · refine aw_iload_n dX6_order_65 rfl ?_
    refine aw_iconst dX6_order_66 ?_
    refine aw_icmp_lt (tg := 80) dX6_order_67 (by decide) (by omega) (fun h67 => ?_) (fun h67 => absurd h67 (by omega))
    refine aw_iload_n dX6_order_80 rfl ?_
    refine aw_iconst dX6_order_81 ?_
    refine aw_icmp_ne (tg := 103) dX6_order_82 (by decide) (by omega) (fun h82 => ?_) (fun h82 => absurd h82 (by omega))
    refine aw_iload_n dX6_order_103 rfl ?_
    refine aw_iconst dX6_order_104 ?_
    refine aw_icmp_ne (tg := 119) dX6_order_105 (by decide) (by omega) (fun h105 => ?_) (fun h105 => absurd h105 (by omega))
    refine aw_iconst dX6_order_119 ?_
    refine aw_goto (tg := 124) dX6_order_120 (by decide) ?_
    refine aw_istore_n (L2 := [_, _, _]) dX6_order_124 (by decide) rfl rfl ?_
    have y2 := y2 h62
    have hnB : nB (zx Z) (zl Z) q 1 (kN 1) := ⟨trivial, y2.1, fun c => absurd c.2 (by decide)⟩
    have hps := nP_b (x := (zx Z)) hm.1 (kN 1)
    have hs9 := (sk_b (x := (zx Z)) hps.2).1
    refine aw_iload_n dX6_order_125 rfl ?_
    refine aw_if_ne (tg := 131) dX6_order_126 (by decide) (by omega) (fun j126 => ?_) (fun j126 => absurd j126 (by omega))
    refine aw_aload_n dX6_order_131 rfl ?_
    refine aw_V0 dX6_order_132 okX6_skips lkX6_124 rfl rfl rfl ?_
    refine zX6_skips _ (hR.sc (f12).sc) hV (p := nP (zx Z) (zl Z) q 1 (kN 1)) y2.2.2 (by omega) (fun g8 f8 n8 e8 => ?_)
    have bb := bA_b hV (k := sk (zx Z) (zl Z) (nP (zx Z) (zl Z) q 1 (kN 1))) (by omega)
    refine aw_aload_n dX6_order_135 rfl ?_
    refine aw_aload_n dX6_order_136 rfl ?_
    refine aw_getI (kz := 7) dX6_order_137 flX6_118 rfl rfl rfl ?_
    rw [e8]
    refine aw_V1 dX6_order_140 okX6_byteAt lkX6_121 rfl rfl rfl ?_
    refine tX6_byteAt _ ((hR.sc (f12).sc).sc f8.sc) hV (by omega) ?_
    refine aw_bipush dX6_order_143 (by decide) ?_
    refine aw_icmp_eq (tg := 150) dX6_order_145 (by decide) (by omega) (fun j145 => ?_) (fun j145 => ?_)
    · refine aw_aload_n dX6_order_150 rfl ?_
      refine aw_dup dX6_order_151 rfl ?_
      refine aw_getI (kz := 7) dX6_order_152 flX6_118 rfl rfl rfl ?_
      
      refine aw_iconst dX6_order_155 ?_
      rw [e8]
      refine aw_iadd dX6_order_156 ?_
      refine aw_putI (kz := 7) dX6_order_157 flX6_118 fi_6_7 rfl rfl rfl  ?_
      refine aw_iload_n dX6_order_160 rfl ?_
      refine aw_iret dX6_order_161 rfl ?_
      have hsg : sg (zx Z) (zl Z) (nP (zx Z) (zl Z) q 1 (kN 1)) := by
        have c := (bA_i (Z := Z) (k := sk (zx Z) (zl Z) (nP (zx Z) (zl Z) q 1 (kN 1))) (lo := 59) (hi := 59) (by omega)).1 (by omega)
        exact ⟨c.1, by omega⟩
      have ob := o_d ew (by omega) hnB hsg
      have e9 := hQ1 (by rw [ob.1]; omega)
      rw [ob.1, ob.2] at e9
      refine e9 _ ((f12).tr f8).at (fun i hi => ?_) (sp_up_s _ _ _ _)
      rw [sp_up_o _ _ _ _ (by decide), n8 i]
      have i0 : i = 0 := by have : i < 1 := hi; omega
      rw [i0]
      exact y2.2.1
    · refine aw_iconst dX6_order_148 ?_
      refine aw_iret dX6_order_149 rfl ?_
      have hns : ¬ sg (zx Z) (zl Z) (nP (zx Z) (zl Z) q 1 (kN 1)) := fun c => j145 (by unfold bA; rw [if_pos c.1]; exact c.2)
      have ob := o_c ew (by omega) hnB hns
      exact hQ0 ob.1 g8 ((f12).tr f8) (by rw [ob.2]; exact e8)
theorem lX6_order_2 (d : Nat) {B : Int} {Z : zZ} {q : Int} {g g1 : sp_G} {Q : sp_P} (hR : mRep g Z) (hV : zV B Z) (hq : 0 ≤ q ∧ q ≤ (zl Z)) (ew : wF (zx Z) (zl Z) q = 2) (hm0 : wM (zx Z) (zl Z) q 2) (f1 : atM g g1) (e1 : g1 52 7 = q + wl 2) (hQ1 : oWd (zx Z) (zl Z) q ≠ -1 → ∀ g2 : sp_G, atM g g2 → (∀ i : Nat, i < kN (oWd (zx Z) (zl Z) q) → g2 58 i = nX (zx Z) (zl Z) q (oWd (zx Z) (zl Z) q) i) → g2 52 7 = oEn (zx Z) (zl Z) q → Q (some (v_i (oWd (zx Z) (zl Z) q))) g2) (hQ0 : oWd (zx Z) (zl Z) q = -1 → ∀ g2 : sp_G, atM g g2 → g2 52 7 = oEn (zx Z) (zl Z) q → Q (some (v_i (-1))) g2) : sp_AW mX6_order (d + 4) 4 [some (v_r 52), none, none] [v_i 2] g1 Q := by
  have wb := wl_b 2
  have hx := zV_x hV
  have hm := hm0
  have k0 := nP_b (x := (zx Z)) hm.1 0
  have k1 := nP_b (x := (zx Z)) hm.1 1
  have k2 := nP_b (x := (zx Z)) hm.1 2
  have k3 := nP_b (x := (zx Z)) hm.1 3
  have e1 : g1 52 7 = nP (zx Z) (zl Z) q 2 0 := e1
  refine aw_istore_n (L2 := [_, _, _]) dX6_order_4 (by decide) rfl rfl ?_
  refine aw_iload_n dX6_order_5 rfl ?_
  refine aw_if_lt (tg := 13) dX6_order_6 (by decide) (by omega) (fun h6 => absurd h6 (by omega)) (fun h6 => ?_)
  refine aw_iconst dX6_order_9 ?_
  refine aw_goto (tg := 14) dX6_order_10 (by decide) ?_
  refine aw_istore_n (L2 := [_, _, _]) dX6_order_14 (by decide) rfl rfl ?_
  refine aw_iload_n dX6_order_15 rfl ?_
  refine aw_iconst dX6_order_16 ?_
  refine aw_icmp_ne (tg := 51) dX6_order_17 (by decide) (by omega) (fun h17 => ?_) (fun h17 => absurd h17 (by omega))
  refine aw_iload_n dX6_order_51 rfl ?_
  refine aw_if_eq (tg := 125) dX6_order_52 (by decide) (by omega) (fun h52 => absurd h52 (by omega)) (fun h52 => ?_)
  refine aw_aload_n dX6_order_55 rfl ?_
  refine aw_iconst dX6_order_56 ?_
  refine aw_iconst dX6_order_57 ?_
  refine aw_iconst dX6_order_58 ?_
  refine aw_V3 dX6_order_59 okX6_isNumber lkX6_130 rfl rfl rfl ?_
  refine wX6_isNumber _ (hR.sc f1.sc) hV (p := nP (zx Z) (zl Z) q 2 0) (by omega) e1 (by omega) (by omega) (fun b2 g2 f2 m2 y2 z2 => ?_)
  have f12 := f1.tr f2
  refine aw_ifeq_b (tg := 123) dX6_order_62 (by decide) (fun h62 => ?_) (fun h62 => ?_)
  · refine aw_iconst dX6_order_123 ?_
    refine aw_istore_n (L2 := [_, _, _]) dX6_order_124 (by decide) rfl rfl ?_
    refine aw_iload_n dX6_order_125 rfl ?_
    refine aw_if_ne (tg := 131) dX6_order_126 (by decide) (by omega) (fun j126 => absurd j126 (by omega)) (fun j126 => ?_)
    refine aw_iconst dX6_order_129 ?_
    refine aw_iret dX6_order_130 rfl ?_
    have ob := o_b (i := 0) ew (by omega) (by decide) trivial (fun c => (z2 h62).1 c.1)
    exact hQ0 ob.1 g2 f12 (by rw [ob.2]; exact (z2 h62).2)
  · refine aw_iload_n dX6_order_65 rfl ?_
    refine aw_iconst dX6_order_66 ?_
    refine aw_icmp_lt (tg := 80) dX6_order_67 (by decide) (by omega) (fun h67 => absurd h67 (by omega)) (fun h67 => ?_)
    refine aw_aload_n dX6_order_70 rfl ?_
    refine aw_iconst dX6_order_71 ?_
    refine aw_iconst dX6_order_72 ?_
    refine aw_iconst dX6_order_73 ?_
    refine aw_V3 dX6_order_74 okX6_isNumber lkX6_130 rfl rfl rfl ?_
    have y2 := y2 h62
    refine wX6_isNumber _ (hR.sc f12.sc) hV (p := nP (zx Z) (zl Z) q 2 1) (by omega) y2.2.2 (by omega) (by omega) (fun b3 g3 f3 m3 y3 z3 => ?_)
    have f13 := f12.tr f3
    refine aw_ifeq_b (tg := 123) dX6_order_77 (by decide) (fun h77 => ?_) (fun h77 => ?_)
    · refine aw_iconst dX6_order_123 ?_
      refine aw_istore_n (L2 := [_, _, _]) dX6_order_124 (by decide) rfl rfl ?_
      refine aw_iload_n dX6_order_125 rfl ?_
      refine aw_if_ne (tg := 131) dX6_order_126 (by decide) (by omega) (fun j126 => absurd j126 (by omega)) (fun j126 => ?_)
      refine aw_iconst dX6_order_129 ?_
      refine aw_iret dX6_order_130 rfl ?_
      have ob := o_b (i := 1) ew (by omega) (by decide) ⟨trivial, y2.1, fun c => absurd c.2 (by decide)⟩ (fun c => (z3 h77).1 c.1)
      exact hQ0 ob.1 g3 f13 (by rw [ob.2]; exact (z3 h77).2)
    · refine aw_iload_n dX6_order_80 rfl ?_
      refine aw_iconst dX6_order_81 ?_
      refine aw_icmp_ne (tg := 103) dX6_order_82 (by decide) (by omega) (fun h82 => absurd h82 (by omega)) (fun h82 => ?_)
      refine aw_aload_n dX6_order_85 rfl ?_
      refine aw_iconst dX6_order_86 ?_
      refine aw_iconst dX6_order_87 ?_
      refine aw_bipush dX6_order_88 (by decide) ?_
      refine aw_V3 dX6_order_90 okX6_isNumber lkX6_130 rfl rfl rfl ?_
      have y3 := y3 h77
      refine wX6_isNumber _ (hR.sc f13.sc) hV (p := nP (zx Z) (zl Z) q 2 2) (by omega) y3.2.2 (by omega) (by omega) (fun b4 g4 f4 m4 y4 z4 => ?_)
      have f14 := f13.tr f4
      refine aw_ifeq_b (tg := 123) dX6_order_93 (by decide) (fun h93 => ?_) (fun h93 => ?_)
      · refine aw_iconst dX6_order_123 ?_
        refine aw_istore_n (L2 := [_, _, _]) dX6_order_124 (by decide) rfl rfl ?_
        refine aw_iload_n dX6_order_125 rfl ?_
        refine aw_if_ne (tg := 131) dX6_order_126 (by decide) (by omega) (fun j126 => absurd j126 (by omega)) (fun j126 => ?_)
        refine aw_iconst dX6_order_129 ?_
        refine aw_iret dX6_order_130 rfl ?_
        have ob := o_b (i := 2) ew (by omega) (by decide) ⟨⟨trivial, y2.1, fun c => absurd c.2 (by decide)⟩, y3.1, fun c => absurd c.2 (by decide)⟩ (fun c => (z4 h93).1 c.1)
        exact hQ0 ob.1 g4 f14 (by rw [ob.2]; exact (z4 h93).2)
      · refine aw_aload_n dX6_order_96 rfl ?_
        refine aw_V0 dX6_order_97 okX6_isEnd lkX6_137 rfl rfl rfl ?_
        have y4 := y4 h93
        have y42 := y4.1.2
        refine wX6_isEnd _ (hR.sc f14.sc) hV (p := nP (zx Z) (zl Z) q 2 3) y4.2.2 (by omega) y4.2.1 (by omega) (fun b5 g5 f5 m5 y5 z5 => ?_)
        have f15 := f14.tr f5
        refine aw_ifeq_b (tg := 123) dX6_order_100 (by decide) (fun h100 => ?_) (fun h100 => ?_)
        · refine aw_iconst dX6_order_123 ?_
          refine aw_istore_n (L2 := [_, _, _]) dX6_order_124 (by decide) rfl rfl ?_
          refine aw_iload_n dX6_order_125 rfl ?_
          refine aw_if_ne (tg := 131) dX6_order_126 (by decide) (by omega) (fun j126 => absurd j126 (by omega)) (fun j126 => ?_)
          refine aw_iconst dX6_order_129 ?_
          refine aw_iret dX6_order_130 rfl ?_
          have ob := o_b (i := 3) ew (by omega) (by decide) ⟨⟨⟨trivial, y2.1, fun c => absurd c.2 (by decide)⟩, y3.1, fun c => absurd c.2 (by decide)⟩, y4.1, fun c => absurd c.2 (by decide)⟩ (fun c => (z5 h100).1 ⟨c.1, c.2 ⟨rfl, rfl⟩⟩)
          exact hQ0 ob.1 g5 f15 (by rw [ob.2]; exact (z5 h100).2)
        · refine aw_iload_n dX6_order_103 rfl ?_
          refine aw_iconst dX6_order_104 ?_
          refine aw_icmp_ne (tg := 119) dX6_order_105 (by decide) (by omega) (fun h105 => ?_) (fun h105 => absurd h105 (by omega))
          refine aw_iconst dX6_order_119 ?_
          refine aw_goto (tg := 124) dX6_order_120 (by decide) ?_
          refine aw_istore_n (L2 := [_, _, _]) dX6_order_124 (by decide) rfl rfl ?_
          have y5 := y5 h100
          have hnB : nB (zx Z) (zl Z) q 2 (kN 2) := ⟨⟨⟨⟨trivial, y2.1, fun c => absurd c.2 (by decide)⟩, y3.1, fun c => absurd c.2 (by decide)⟩, y4.1, fun c => absurd c.2 (by decide)⟩, y5.1.1, fun _ => y5.1.2⟩
          have hps := nP_b (x := (zx Z)) hm.1 (kN 2)
          have hs9 := (sk_b (x := (zx Z)) hps.2).1
          refine aw_iload_n dX6_order_125 rfl ?_
          refine aw_if_ne (tg := 131) dX6_order_126 (by decide) (by omega) (fun j126 => ?_) (fun j126 => absurd j126 (by omega))
          refine aw_aload_n dX6_order_131 rfl ?_
          refine aw_V0 dX6_order_132 okX6_skips lkX6_124 rfl rfl rfl ?_
          refine zX6_skips _ (hR.sc (f15).sc) hV (p := nP (zx Z) (zl Z) q 2 (kN 2)) y5.2.2 (by omega) (fun g8 f8 n8 e8 => ?_)
          have bb := bA_b hV (k := sk (zx Z) (zl Z) (nP (zx Z) (zl Z) q 2 (kN 2))) (by omega)
          refine aw_aload_n dX6_order_135 rfl ?_
          refine aw_aload_n dX6_order_136 rfl ?_
          refine aw_getI (kz := 7) dX6_order_137 flX6_118 rfl rfl rfl ?_
          rw [e8]
          refine aw_V1 dX6_order_140 okX6_byteAt lkX6_121 rfl rfl rfl ?_
          refine tX6_byteAt _ ((hR.sc (f15).sc).sc f8.sc) hV (by omega) ?_
          refine aw_bipush dX6_order_143 (by decide) ?_
          refine aw_icmp_eq (tg := 150) dX6_order_145 (by decide) (by omega) (fun j145 => ?_) (fun j145 => ?_)
          · refine aw_aload_n dX6_order_150 rfl ?_
            refine aw_dup dX6_order_151 rfl ?_
            refine aw_getI (kz := 7) dX6_order_152 flX6_118 rfl rfl rfl ?_
            
            refine aw_iconst dX6_order_155 ?_
            rw [e8]
            refine aw_iadd dX6_order_156 ?_
            refine aw_putI (kz := 7) dX6_order_157 flX6_118 fi_6_7 rfl rfl rfl  ?_
            refine aw_iload_n dX6_order_160 rfl ?_
            refine aw_iret dX6_order_161 rfl ?_
            have hsg : sg (zx Z) (zl Z) (nP (zx Z) (zl Z) q 2 (kN 2)) := by
              have c := (bA_i (Z := Z) (k := sk (zx Z) (zl Z) (nP (zx Z) (zl Z) q 2 (kN 2))) (lo := 59) (hi := 59) (by omega)).1 (by omega)
              exact ⟨c.1, by omega⟩
            have ob := o_d ew (by omega) hnB hsg
            have e9 := hQ1 (by rw [ob.1]; omega)
            rw [ob.1, ob.2] at e9
            refine e9 _ ((f15).tr f8).at (fun i hi => ?_) (sp_up_s _ _ _ _)
            rw [sp_up_o _ _ _ _ (by decide), n8 i]
            rcases (show i = 0 ∨ i = 1 ∨ i = 2 ∨ i = 3 by have : i < 4 := hi; omega) with i0 | i0 | i0 | i0
            · rw [i0]; exact (((m5 0 (by decide)).trans (m4 0 (by decide))).trans (m3 0 (by decide))).trans y2.2.1
            · rw [i0]; exact ((m5 1 (by decide)).trans (m4 1 (by decide))).trans y3.2.1
            · rw [i0]; exact (m5 2 (by decide)).trans y4.2.1
            · rw [i0]; exact y5.2.1
          · refine aw_iconst dX6_order_148 ?_
            refine aw_iret dX6_order_149 rfl ?_
            have hns : ¬ sg (zx Z) (zl Z) (nP (zx Z) (zl Z) q 2 (kN 2)) := fun c => j145 (by unfold bA; rw [if_pos c.1]; exact c.2)
            have ob := o_c ew (by omega) hnB hns
            exact hQ0 ob.1 g8 ((f15).tr f8) (by rw [ob.2]; exact e8)
theorem lX6_order_3 (d : Nat) {B : Int} {Z : zZ} {q : Int} {g g1 : sp_G} {Q : sp_P} (hR : mRep g Z) (hV : zV B Z) (hq : 0 ≤ q ∧ q ≤ (zl Z)) (ew : wF (zx Z) (zl Z) q = 3) (hm0 : wM (zx Z) (zl Z) q 3) (f1 : atM g g1) (e1 : g1 52 7 = q + wl 3) (hQ1 : oWd (zx Z) (zl Z) q ≠ -1 → ∀ g2 : sp_G, atM g g2 → (∀ i : Nat, i < kN (oWd (zx Z) (zl Z) q) → g2 58 i = nX (zx Z) (zl Z) q (oWd (zx Z) (zl Z) q) i) → g2 52 7 = oEn (zx Z) (zl Z) q → Q (some (v_i (oWd (zx Z) (zl Z) q))) g2) (hQ0 : oWd (zx Z) (zl Z) q = -1 → ∀ g2 : sp_G, atM g g2 → g2 52 7 = oEn (zx Z) (zl Z) q → Q (some (v_i (-1))) g2) : sp_AW mX6_order (d + 4) 4 [some (v_r 52), none, none] [v_i 3] g1 Q := by
  have wb := wl_b 3
  have hx := zV_x hV
  have hm := hm0
  have k0 := nP_b (x := (zx Z)) hm.1 0
  have k1 := nP_b (x := (zx Z)) hm.1 1
  have k2 := nP_b (x := (zx Z)) hm.1 2
  have k3 := nP_b (x := (zx Z)) hm.1 3
  have e1 : g1 52 7 = nP (zx Z) (zl Z) q 3 0 := e1
  refine aw_istore_n (L2 := [_, _, _]) dX6_order_4 (by decide) rfl rfl ?_
  refine aw_iload_n dX6_order_5 rfl ?_
  refine aw_if_lt (tg := 13) dX6_order_6 (by decide) (by omega) (fun h6 => absurd h6 (by omega)) (fun h6 => ?_)
  refine aw_iconst dX6_order_9 ?_
  refine aw_goto (tg := 14) dX6_order_10 (by decide) ?_
  refine aw_istore_n (L2 := [_, _, _]) dX6_order_14 (by decide) rfl rfl ?_
  refine aw_iload_n dX6_order_15 rfl ?_
  refine aw_iconst dX6_order_16 ?_
  refine aw_icmp_ne (tg := 51) dX6_order_17 (by decide) (by omega) (fun h17 => ?_) (fun h17 => absurd h17 (by omega))
  refine aw_iload_n dX6_order_51 rfl ?_
  refine aw_if_eq (tg := 125) dX6_order_52 (by decide) (by omega) (fun h52 => absurd h52 (by omega)) (fun h52 => ?_)
  refine aw_aload_n dX6_order_55 rfl ?_
  refine aw_iconst dX6_order_56 ?_
  refine aw_iconst dX6_order_57 ?_
  refine aw_iconst dX6_order_58 ?_
  refine aw_V3 dX6_order_59 okX6_isNumber lkX6_130 rfl rfl rfl ?_
  refine wX6_isNumber _ (hR.sc f1.sc) hV (p := nP (zx Z) (zl Z) q 3 0) (by omega) e1 (by omega) (by omega) (fun b2 g2 f2 m2 y2 z2 => ?_)
  have f12 := f1.tr f2
  refine aw_ifeq_b (tg := 123) dX6_order_62 (by decide) (fun h62 => ?_) (fun h62 => ?_)
  · refine aw_iconst dX6_order_123 ?_
    refine aw_istore_n (L2 := [_, _, _]) dX6_order_124 (by decide) rfl rfl ?_
    refine aw_iload_n dX6_order_125 rfl ?_
    refine aw_if_ne (tg := 131) dX6_order_126 (by decide) (by omega) (fun j126 => absurd j126 (by omega)) (fun j126 => ?_)
    refine aw_iconst dX6_order_129 ?_
    refine aw_iret dX6_order_130 rfl ?_
    have ob := o_b (i := 0) ew (by omega) (by decide) trivial (fun c => (z2 h62).1 c.1)
    exact hQ0 ob.1 g2 f12 (by rw [ob.2]; exact (z2 h62).2)
  · refine aw_iload_n dX6_order_65 rfl ?_
    refine aw_iconst dX6_order_66 ?_
    refine aw_icmp_lt (tg := 80) dX6_order_67 (by decide) (by omega) (fun h67 => absurd h67 (by omega)) (fun h67 => ?_)
    refine aw_aload_n dX6_order_70 rfl ?_
    refine aw_iconst dX6_order_71 ?_
    refine aw_iconst dX6_order_72 ?_
    refine aw_iconst dX6_order_73 ?_
    refine aw_V3 dX6_order_74 okX6_isNumber lkX6_130 rfl rfl rfl ?_
    have y2 := y2 h62
    refine wX6_isNumber _ (hR.sc f12.sc) hV (p := nP (zx Z) (zl Z) q 3 1) (by omega) y2.2.2 (by omega) (by omega) (fun b3 g3 f3 m3 y3 z3 => ?_)
    have f13 := f12.tr f3
    refine aw_ifeq_b (tg := 123) dX6_order_77 (by decide) (fun h77 => ?_) (fun h77 => ?_)
    · refine aw_iconst dX6_order_123 ?_
      refine aw_istore_n (L2 := [_, _, _]) dX6_order_124 (by decide) rfl rfl ?_
      refine aw_iload_n dX6_order_125 rfl ?_
      refine aw_if_ne (tg := 131) dX6_order_126 (by decide) (by omega) (fun j126 => absurd j126 (by omega)) (fun j126 => ?_)
      refine aw_iconst dX6_order_129 ?_
      refine aw_iret dX6_order_130 rfl ?_
      have ob := o_b (i := 1) ew (by omega) (by decide) ⟨trivial, y2.1, fun c => absurd c.2 (by decide)⟩ (fun c => (z3 h77).1 c.1)
      exact hQ0 ob.1 g3 f13 (by rw [ob.2]; exact (z3 h77).2)
    · refine aw_iload_n dX6_order_80 rfl ?_
      refine aw_iconst dX6_order_81 ?_
      refine aw_icmp_ne (tg := 103) dX6_order_82 (by decide) (by omega) (fun h82 => ?_) (fun h82 => absurd h82 (by omega))
      refine aw_iload_n dX6_order_103 rfl ?_
      refine aw_iconst dX6_order_104 ?_
      refine aw_icmp_ne (tg := 119) dX6_order_105 (by decide) (by omega) (fun h105 => absurd h105 (by omega)) (fun h105 => ?_)
      refine aw_aload_n dX6_order_108 rfl ?_
      refine aw_iconst dX6_order_109 ?_
      refine aw_iconst dX6_order_110 ?_
      refine aw_bipush dX6_order_111 (by decide) ?_
      refine aw_V3 dX6_order_113 okX6_isNumber lkX6_130 rfl rfl rfl ?_
      have y3 := y3 h77
      refine wX6_isNumber _ (hR.sc f13.sc) hV (p := nP (zx Z) (zl Z) q 3 2) (by omega) y3.2.2 (by omega) (by omega) (fun b4 g4 f4 m4 y4 z4 => ?_)
      have f14 := f13.tr f4
      refine aw_ifeq_b (tg := 123) dX6_order_116 (by decide) (fun h116 => ?_) (fun h116 => ?_)
      · refine aw_iconst dX6_order_123 ?_
        refine aw_istore_n (L2 := [_, _, _]) dX6_order_124 (by decide) rfl rfl ?_
        refine aw_iload_n dX6_order_125 rfl ?_
        refine aw_if_ne (tg := 131) dX6_order_126 (by decide) (by omega) (fun j126 => absurd j126 (by omega)) (fun j126 => ?_)
        refine aw_iconst dX6_order_129 ?_
        refine aw_iret dX6_order_130 rfl ?_
        have ob := o_b (i := 2) ew (by omega) (by decide) ⟨⟨trivial, y2.1, fun c => absurd c.2 (by decide)⟩, y3.1, fun c => absurd c.2 (by decide)⟩ (fun c => (z4 h116).1 c.1)
        exact hQ0 ob.1 g4 f14 (by rw [ob.2]; exact (z4 h116).2)
      · refine aw_iconst dX6_order_119 ?_
        refine aw_goto (tg := 124) dX6_order_120 (by decide) ?_
        refine aw_istore_n (L2 := [_, _, _]) dX6_order_124 (by decide) rfl rfl ?_
        have y4 := y4 h116
        have hnB : nB (zx Z) (zl Z) q 3 (kN 3) := ⟨⟨⟨trivial, y2.1, fun c => absurd c.2 (by decide)⟩, y3.1, fun c => absurd c.2 (by decide)⟩, y4.1, fun c => absurd c.2 (by decide)⟩
        have hps := nP_b (x := (zx Z)) hm.1 (kN 3)
        have hs9 := (sk_b (x := (zx Z)) hps.2).1
        refine aw_iload_n dX6_order_125 rfl ?_
        refine aw_if_ne (tg := 131) dX6_order_126 (by decide) (by omega) (fun j126 => ?_) (fun j126 => absurd j126 (by omega))
        refine aw_aload_n dX6_order_131 rfl ?_
        refine aw_V0 dX6_order_132 okX6_skips lkX6_124 rfl rfl rfl ?_
        refine zX6_skips _ (hR.sc (f14).sc) hV (p := nP (zx Z) (zl Z) q 3 (kN 3)) y4.2.2 (by omega) (fun g8 f8 n8 e8 => ?_)
        have bb := bA_b hV (k := sk (zx Z) (zl Z) (nP (zx Z) (zl Z) q 3 (kN 3))) (by omega)
        refine aw_aload_n dX6_order_135 rfl ?_
        refine aw_aload_n dX6_order_136 rfl ?_
        refine aw_getI (kz := 7) dX6_order_137 flX6_118 rfl rfl rfl ?_
        rw [e8]
        refine aw_V1 dX6_order_140 okX6_byteAt lkX6_121 rfl rfl rfl ?_
        refine tX6_byteAt _ ((hR.sc (f14).sc).sc f8.sc) hV (by omega) ?_
        refine aw_bipush dX6_order_143 (by decide) ?_
        refine aw_icmp_eq (tg := 150) dX6_order_145 (by decide) (by omega) (fun j145 => ?_) (fun j145 => ?_)
        · refine aw_aload_n dX6_order_150 rfl ?_
          refine aw_dup dX6_order_151 rfl ?_
          refine aw_getI (kz := 7) dX6_order_152 flX6_118 rfl rfl rfl ?_
          
          refine aw_iconst dX6_order_155 ?_
          rw [e8]
          refine aw_iadd dX6_order_156 ?_
          refine aw_putI (kz := 7) dX6_order_157 flX6_118 fi_6_7 rfl rfl rfl  ?_
          refine aw_iload_n dX6_order_160 rfl ?_
          refine aw_iret dX6_order_161 rfl ?_
          have hsg : sg (zx Z) (zl Z) (nP (zx Z) (zl Z) q 3 (kN 3)) := by
            have c := (bA_i (Z := Z) (k := sk (zx Z) (zl Z) (nP (zx Z) (zl Z) q 3 (kN 3))) (lo := 59) (hi := 59) (by omega)).1 (by omega)
            exact ⟨c.1, by omega⟩
          have ob := o_d ew (by omega) hnB hsg
          have e9 := hQ1 (by rw [ob.1]; omega)
          rw [ob.1, ob.2] at e9
          refine e9 _ ((f14).tr f8).at (fun i hi => ?_) (sp_up_s _ _ _ _)
          rw [sp_up_o _ _ _ _ (by decide), n8 i]
          rcases (show i = 0 ∨ i = 1 ∨ i = 2 by have : i < 3 := hi; omega) with i0 | i0 | i0
          · rw [i0]; exact ((m4 0 (by decide)).trans (m3 0 (by decide))).trans y2.2.1
          · rw [i0]; exact (m4 1 (by decide)).trans y3.2.1
          · rw [i0]; exact y4.2.1
        · refine aw_iconst dX6_order_148 ?_
          refine aw_iret dX6_order_149 rfl ?_
          have hns : ¬ sg (zx Z) (zl Z) (nP (zx Z) (zl Z) q 3 (kN 3)) := fun c => j145 (by unfold bA; rw [if_pos c.1]; exact c.2)
          have ob := o_c ew (by omega) hnB hns
          exact hQ0 ob.1 g8 ((f14).tr f8) (by rw [ob.2]; exact e8)
theorem lX6_order_4 (d : Nat) {B : Int} {Z : zZ} {q : Int} {g g1 : sp_G} {Q : sp_P} (hR : mRep g Z) (hV : zV B Z) (hq : 0 ≤ q ∧ q ≤ (zl Z)) (ew : wF (zx Z) (zl Z) q = 4) (hm0 : wM (zx Z) (zl Z) q 4) (f1 : atM g g1) (e1 : g1 52 7 = q + wl 4) (hQ1 : oWd (zx Z) (zl Z) q ≠ -1 → ∀ g2 : sp_G, atM g g2 → (∀ i : Nat, i < kN (oWd (zx Z) (zl Z) q) → g2 58 i = nX (zx Z) (zl Z) q (oWd (zx Z) (zl Z) q) i) → g2 52 7 = oEn (zx Z) (zl Z) q → Q (some (v_i (oWd (zx Z) (zl Z) q))) g2) (hQ0 : oWd (zx Z) (zl Z) q = -1 → ∀ g2 : sp_G, atM g g2 → g2 52 7 = oEn (zx Z) (zl Z) q → Q (some (v_i (-1))) g2) : sp_AW mX6_order (d + 4) 4 [some (v_r 52), none, none] [v_i 4] g1 Q := by
  have wb := wl_b 4
  have hx := zV_x hV
  have hm := hm0
  have k0 := nP_b (x := (zx Z)) hm.1 0
  have k1 := nP_b (x := (zx Z)) hm.1 1
  have k2 := nP_b (x := (zx Z)) hm.1 2
  have k3 := nP_b (x := (zx Z)) hm.1 3
  have e1 : g1 52 7 = nP (zx Z) (zl Z) q 4 0 := e1
  refine aw_istore_n (L2 := [_, _, _]) dX6_order_4 (by decide) rfl rfl ?_
  refine aw_iload_n dX6_order_5 rfl ?_
  refine aw_if_lt (tg := 13) dX6_order_6 (by decide) (by omega) (fun h6 => absurd h6 (by omega)) (fun h6 => ?_)
  refine aw_iconst dX6_order_9 ?_
  refine aw_goto (tg := 14) dX6_order_10 (by decide) ?_
  refine aw_istore_n (L2 := [_, _, _]) dX6_order_14 (by decide) rfl rfl ?_
  refine aw_iload_n dX6_order_15 rfl ?_
  refine aw_iconst dX6_order_16 ?_
  refine aw_icmp_ne (tg := 51) dX6_order_17 (by decide) (by omega) (fun h17 => absurd h17 (by omega)) (fun h17 => ?_)
  refine aw_aload_n dX6_order_20 rfl ?_
  refine aw_iconst dX6_order_21 ?_
  refine aw_iconst dX6_order_22 ?_
  refine aw_bipush dX6_order_23 (by decide) ?_
  refine aw_V3 dX6_order_25 okX6_isNumber lkX6_130 rfl rfl rfl ?_
  refine wX6_isNumber _ (hR.sc f1.sc) hV (p := nP (zx Z) (zl Z) q 4 0) (by omega) e1 (by omega) (by omega) (fun b2 g2 f2 m2 y2 z2 => ?_)
  have f12 := f1.tr f2
  refine aw_ifeq_b (tg := 46) dX6_order_28 (by decide) (fun h28 => ?_) (fun h28 => ?_)
  · refine aw_iconst dX6_order_46 ?_
    refine aw_istore_n (L2 := [_, _, _]) dX6_order_47 (by decide) rfl rfl ?_
    refine aw_goto (tg := 125) dX6_order_48 (by decide) ?_
    refine aw_iload_n dX6_order_125 rfl ?_
    refine aw_if_ne (tg := 131) dX6_order_126 (by decide) (by omega) (fun j126 => absurd j126 (by omega)) (fun j126 => ?_)
    refine aw_iconst dX6_order_129 ?_
    refine aw_iret dX6_order_130 rfl ?_
    have ob := o_b (i := 0) ew (by omega) (by decide) trivial (fun c => (z2 h28).1 c.1)
    exact hQ0 ob.1 g2 f12 (by rw [ob.2]; exact (z2 h28).2)
  · refine aw_aload_n dX6_order_31 rfl ?_
    refine aw_iconst dX6_order_32 ?_
    refine aw_iconst dX6_order_33 ?_
    refine aw_bipush dX6_order_34 (by decide) ?_
    refine aw_V3 dX6_order_36 okX6_isNumber lkX6_130 rfl rfl rfl ?_
    have y2 := y2 h28
    refine wX6_isNumber _ (hR.sc f12.sc) hV (p := nP (zx Z) (zl Z) q 4 1) (by omega) y2.2.2 (by omega) (by omega) (fun b3 g3 f3 m3 y3 z3 => ?_)
    have f13 := f12.tr f3
    refine aw_ifeq_b (tg := 46) dX6_order_39 (by decide) (fun h39 => ?_) (fun h39 => ?_)
    · refine aw_iconst dX6_order_46 ?_
      refine aw_istore_n (L2 := [_, _, _]) dX6_order_47 (by decide) rfl rfl ?_
      refine aw_goto (tg := 125) dX6_order_48 (by decide) ?_
      refine aw_iload_n dX6_order_125 rfl ?_
      refine aw_if_ne (tg := 131) dX6_order_126 (by decide) (by omega) (fun j126 => absurd j126 (by omega)) (fun j126 => ?_)
      refine aw_iconst dX6_order_129 ?_
      refine aw_iret dX6_order_130 rfl ?_
      have ob := o_b (i := 1) ew (by omega) (by decide) ⟨trivial, y2.1, fun c => absurd c.2 (by decide)⟩ (fun c => (z3 h39).1 c.1)
      exact hQ0 ob.1 g3 f13 (by rw [ob.2]; exact (z3 h39).2)
    · refine aw_iconst dX6_order_42 ?_
      refine aw_goto (tg := 47) dX6_order_43 (by decide) ?_
      refine aw_istore_n (L2 := [_, _, _]) dX6_order_47 (by decide) rfl rfl ?_
      refine aw_goto (tg := 125) dX6_order_48 (by decide) ?_
      have y3 := y3 h39
      have hnB : nB (zx Z) (zl Z) q 4 (kN 4) := ⟨⟨trivial, y2.1, fun c => absurd c.2 (by decide)⟩, y3.1, fun c => absurd c.2 (by decide)⟩
      have hps := nP_b (x := (zx Z)) hm.1 (kN 4)
      have hs9 := (sk_b (x := (zx Z)) hps.2).1
      refine aw_iload_n dX6_order_125 rfl ?_
      refine aw_if_ne (tg := 131) dX6_order_126 (by decide) (by omega) (fun j126 => ?_) (fun j126 => absurd j126 (by omega))
      refine aw_aload_n dX6_order_131 rfl ?_
      refine aw_V0 dX6_order_132 okX6_skips lkX6_124 rfl rfl rfl ?_
      refine zX6_skips _ (hR.sc (f13).sc) hV (p := nP (zx Z) (zl Z) q 4 (kN 4)) y3.2.2 (by omega) (fun g8 f8 n8 e8 => ?_)
      have bb := bA_b hV (k := sk (zx Z) (zl Z) (nP (zx Z) (zl Z) q 4 (kN 4))) (by omega)
      refine aw_aload_n dX6_order_135 rfl ?_
      refine aw_aload_n dX6_order_136 rfl ?_
      refine aw_getI (kz := 7) dX6_order_137 flX6_118 rfl rfl rfl ?_
      rw [e8]
      refine aw_V1 dX6_order_140 okX6_byteAt lkX6_121 rfl rfl rfl ?_
      refine tX6_byteAt _ ((hR.sc (f13).sc).sc f8.sc) hV (by omega) ?_
      refine aw_bipush dX6_order_143 (by decide) ?_
      refine aw_icmp_eq (tg := 150) dX6_order_145 (by decide) (by omega) (fun j145 => ?_) (fun j145 => ?_)
      · refine aw_aload_n dX6_order_150 rfl ?_
        refine aw_dup dX6_order_151 rfl ?_
        refine aw_getI (kz := 7) dX6_order_152 flX6_118 rfl rfl rfl ?_
        
        refine aw_iconst dX6_order_155 ?_
        rw [e8]
        refine aw_iadd dX6_order_156 ?_
        refine aw_putI (kz := 7) dX6_order_157 flX6_118 fi_6_7 rfl rfl rfl  ?_
        refine aw_iload_n dX6_order_160 rfl ?_
        refine aw_iret dX6_order_161 rfl ?_
        have hsg : sg (zx Z) (zl Z) (nP (zx Z) (zl Z) q 4 (kN 4)) := by
          have c := (bA_i (Z := Z) (k := sk (zx Z) (zl Z) (nP (zx Z) (zl Z) q 4 (kN 4))) (lo := 59) (hi := 59) (by omega)).1 (by omega)
          exact ⟨c.1, by omega⟩
        have ob := o_d ew (by omega) hnB hsg
        have e9 := hQ1 (by rw [ob.1]; omega)
        rw [ob.1, ob.2] at e9
        refine e9 _ ((f13).tr f8).at (fun i hi => ?_) (sp_up_s _ _ _ _)
        rw [sp_up_o _ _ _ _ (by decide), n8 i]
        rcases (show i = 0 ∨ i = 1 by have : i < 2 := hi; omega) with i0 | i0
        · rw [i0]; exact (m3 0 (by decide)).trans y2.2.1
        · rw [i0]; exact y3.2.1
      · refine aw_iconst dX6_order_148 ?_
        refine aw_iret dX6_order_149 rfl ?_
        have hns : ¬ sg (zx Z) (zl Z) (nP (zx Z) (zl Z) q 4 (kN 4)) := fun c => j145 (by unfold bA; rw [if_pos c.1]; exact c.2)
        have ob := o_c ew (by omega) hnB hns
        exact hQ0 ob.1 g8 ((f13).tr f8) (by rw [ob.2]; exact e8)
theorem zX6_order (d : Nat) {B : Int} {Z : zZ} {p q : Int} {g : sp_G} {Q : sp_P} (hR : mRep g Z) (hV : zV B Z) (ep : g 52 7 = p) (hp : 0 ≤ p ∧ p ≤ (zl Z)) (eq : q = sk (zx Z) (zl Z) p) (hQ1 : oWd (zx Z) (zl Z) q ≠ -1 → ∀ g2 : sp_G, atM g g2 → (∀ i : Nat, i < kN (oWd (zx Z) (zl Z) q) → g2 58 i = nX (zx Z) (zl Z) q (oWd (zx Z) (zl Z) q) i) → g2 52 7 = oEn (zx Z) (zl Z) q → Q (some (v_i (oWd (zx Z) (zl Z) q))) g2) (hQ0 : oWd (zx Z) (zl Z) q = -1 → ∀ g2 : sp_G, atM g g2 → g2 52 7 = oEn (zx Z) (zl Z) q → Q (some (v_i (-1))) g2) : sp_Met (d + 4) mX6_order [v_r 52] g Q := by
  have hs := (sk_b (x := (zx Z)) hp.2).1
  rw [← eq] at hs
  refine sp_of (L := [_, _, _]) (by decide) (Nat.le_of_ble_eq_true rfl) rfl rfl ?_
  refine aw_aload_n dX6_order_0 rfl ?_
  refine aw_V0 dX6_order_1 okX6_word lkX6_133 rfl rfl rfl ?_
  refine zX6_word _ hR hV ep hp (fun w hw ew g1 f1 e1 => ?_) (fun ew g1 f1 e1 => ?_)
  · rw [← eq] at ew e1
    have hm : wM (zx Z) (zl Z) q w := by
      rcases wF_c (zx Z) (zl Z) q with c | c
      · omega
      · rw [ew] at c; exact c.2
    rcases (show w = 0 ∨ w = 1 ∨ w = 2 ∨ w = 3 ∨ w = 4 by omega) with c | c | c | c | c <;> subst c
    · exact lX6_order_0 d hR hV (by omega) ew hm f1 e1 hQ1 hQ0
    · exact lX6_order_1 d hR hV (by omega) ew hm f1 e1 hQ1 hQ0
    · exact lX6_order_2 d hR hV (by omega) ew hm f1 e1 hQ1 hQ0
    · exact lX6_order_3 d hR hV (by omega) ew hm f1 e1 hQ1 hQ0
    · exact lX6_order_4 d hR hV (by omega) ew hm f1 e1 hQ1 hQ0
  · rw [← eq] at ew e1
    have ob := o_a ew
    refine aw_istore_n (L2 := [_, _, _]) dX6_order_4 (by decide) rfl rfl ?_
    refine aw_iload_n dX6_order_5 rfl ?_
    refine aw_if_lt (tg := 13) dX6_order_6 (by decide) (by omega) (fun h6 => ?_) (fun h6 => absurd h6 (by omega))
    refine aw_iconst dX6_order_13 ?_
    refine aw_istore_n (L2 := [_, _, _]) dX6_order_14 (by decide) rfl rfl ?_
    refine aw_iload_n dX6_order_15 rfl ?_
    refine aw_iconst dX6_order_16 ?_
    refine aw_icmp_ne (tg := 51) dX6_order_17 (by decide) (by omega) (fun h17 => ?_) (fun h17 => absurd h17 (by omega))
    refine aw_iload_n dX6_order_51 rfl ?_
    refine aw_if_eq (tg := 125) dX6_order_52 (by decide) (by omega) (fun h52 => ?_) (fun h52 => absurd h52 (by omega))
    refine aw_iload_n dX6_order_125 rfl ?_
    refine aw_if_ne (tg := 131) dX6_order_126 (by decide) (by omega) (fun h126 => absurd h126 (by omega)) (fun h126 => ?_)
    refine aw_iconst dX6_order_129 ?_
    refine aw_iret dX6_order_130 rfl ?_
    exact hQ0 ob.1 g1 f1 (by rw [ob.2]; exact e1)
