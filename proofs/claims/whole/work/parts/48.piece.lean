/-- a piece is read: its kind, its start, what lies behind it -/
def pcP (g g2 : sp_G) : Prop := sp_fr [49] g g2 ∧ g2 49 1 = g 49 1 ∧ g2 49 3 = g 49 3
theorem pcP.rf {g : sp_G} : pcP g g := ⟨sp_fr.rf, rfl, rfl⟩
theorem pcP.tr {g g2 g3 : sp_G} (h : pcP g g2) (h2 : pcP g2 g3) : pcP g g3 := ⟨h.1.tr h2.1 (fun _ q => q), h2.2.1.trans h.2.1, h2.2.2.trans h.2.2⟩
theorem pcP.up {g g2 : sp_G} {i x : Int} (h : pcP g g2) (hi : i = 4 ∨ i = 5 ∨ i = 6) : pcP g (sp_up g2 49 i x) := ⟨h.1.up (by decide), by rw [sp_up_i _ _ _ _ (by omega)]; exact h.2.1, by rw [sp_up_i _ _ _ _ (by omega)]; exact h.2.2⟩
def scS (g g2 : sp_G) : Prop := sp_fr [49, 51] g g2 ∧ g2 49 1 = g 49 1
theorem pcP.s {g g2 : sp_G} (h : pcP g g2) : scS g g2 := ⟨h.1.wk (by decide), h.2.1⟩
theorem scS.tr {g g2 g3 : sp_G} (h : scS g g2) (h2 : scS g2 g3) : scS g g3 := ⟨h.1.tr h2.1 (fun _ q => q), h2.2.trans h.2⟩
theorem scS.f {g g2 : sp_G} (h : scS g g2) : scF g g2 := ⟨h.1.wk (by decide), h.1 45 (by decide) 0, h.1 45 (by decide) 1, h.1 45 (by decide) 2, h.2⟩
theorem cRep.tx {g : sp_G} {Z : zZ} (h : cRep g Z) : g 49 1 = (zl Z) ∧ rH g 50 0 (zl Z) (zx Z) := ⟨h.2.2.2.2.2.2.1, h.2.2.2.2.2.2.2⟩
theorem tX2_isLetter (d : Nat) {c : Int} {g : sp_G} {Q : sp_P} (hr : (-2147483648 ≤ c ∧ c < 2147483648)) (hQ : Q (some (v_i (sp_bl (97 ≤ c ∧ c ≤ 122)))) g) : sp_Met (d + 1) mX2_isLetter [v_i c] g Q := by
  refine sp_of (L := [_]) (by decide) (Nat.le_of_ble_eq_true rfl) rfl rfl ?_
  refine aw_iload_n dX2_isLetter_0 rfl ?_
  refine aw_bipush dX2_isLetter_1 (by decide) ?_
  refine aw_bipush dX2_isLetter_3 (by decide) ?_
  refine aw_N3 dX2_isLetter_5 okX5_within lkX2_65 rfl ?_
  refine tX5_within _ (by omega) ?_
  refine aw_zret dX2_isLetter_8 rfl (by have := sp_bl_o (97 ≤ c ∧ c ≤ 122); omega) ?_
  exact hQ
theorem tX2_isFigure (d : Nat) {c : Int} {g : sp_G} {Q : sp_P} (hr : (-2147483648 ≤ c ∧ c < 2147483648)) (hQ : Q (some (v_i (sp_bl (48 ≤ c ∧ c ≤ 57)))) g) : sp_Met (d + 1) mX2_isFigure [v_i c] g Q := by
  refine sp_of (L := [_]) (by decide) (Nat.le_of_ble_eq_true rfl) rfl rfl ?_
  refine aw_iload_n dX2_isFigure_0 rfl ?_
  refine aw_bipush dX2_isFigure_1 (by decide) ?_
  refine aw_bipush dX2_isFigure_3 (by decide) ?_
  refine aw_N3 dX2_isFigure_5 okX5_within lkX2_65 rfl ?_
  refine tX5_within _ (by omega) ?_
  refine aw_zret dX2_isFigure_8 rfl (by have := sp_bl_o (48 ≤ c ∧ c ≤ 57); omega) ?_
  exact hQ
def kd (x : Int → Int) (N q : Int) : Int := if q < N then (if 97 ≤ x q ∧ x q ≤ 122 then 1 else if 48 ≤ x q ∧ x q ≤ 57 then 2 else 3) else 0
def bh (x : Int → Int) (N q : Int) : Int := if q < N then (if 97 ≤ x q ∧ x q ≤ 122 then rn 97 122 x N q else if 48 ≤ x q ∧ x q ≤ 57 then rn 48 57 x N q else q + 1) else q
def pc (g : sp_G) (x : Int → Int) (N q : Int) : Prop := g 49 5 = q ∧ g 49 4 = kd x N q ∧ g 49 6 = bh x N q
theorem lX2_rpw (d : Nat) {B : Int} {Z : zZ} {g0 : sp_G} {Q : sp_P} (hR : cRep g0 Z) (hV : zV B Z) {e : Int} (hQ : ∀ g2 : sp_G, pcP g0 g2 → g2 49 5 = g0 49 5 → g2 49 4 = g0 49 4 → g2 49 6 = e → Q none g2) :
    ∀ (n : Nat) (p : Int) (g : sp_G), 0 ≤ p → p + n = (zl Z) → rn 97 122 (zx Z) (zl Z) p = e → g 49 6 = p → pcP g0 g → g 49 5 = g0 49 5 → g 49 4 = g0 49 4 → sp_AW mX2_readPiece (d + 2) 93 [some (v_r 49)] [] g Q := by
  have hx := zV_x hV
  intro n
  induction n with
  | zero =>
    intro p g h0 hn he ep hp h5 h4
    have t1 : g 49 1 = (zl Z) := by rw [hp.2.1]; exact hR.tx.1
    refine aw_aload_n dX2_readPiece_93 rfl ?_
    refine aw_getI (kz := 6) dX2_readPiece_94 flX2_32 rfl rfl rfl ?_
    refine aw_aload_n dX2_readPiece_97 rfl ?_
    refine aw_getI (kz := 1) dX2_readPiece_98 flX2_15 rfl rfl rfl ?_
    rw [ep, t1]
    refine aw_icmp_ge (tg := 206) dX2_readPiece_101 (by decide) (by omega) (fun h101 => ?_) (fun h101 => absurd h101 (by omega))
    refine aw_vret dX2_readPiece_206 rfl ?_
    exact hQ g hp h5 h4 (by rw [ep, ← he]; exact (rn_n (fun k => by omega)).symm)
  | succ n ih =>
    intro p g h0 hn he ep hp h5 h4
    have t1 : g 49 1 = (zl Z) := by rw [hp.2.1]; exact hR.tx.1
    have hb : g 50 p = (zx Z) p := by rw [hp.1 50 (by decide)]; exact hR.tx.2 p p h0 (by omega) (by omega)
    have xb := hx.2 p h0 (by omega)
    refine aw_aload_n dX2_readPiece_93 rfl ?_
    refine aw_getI (kz := 6) dX2_readPiece_94 flX2_32 rfl rfl rfl ?_
    refine aw_aload_n dX2_readPiece_97 rfl ?_
    refine aw_getI (kz := 1) dX2_readPiece_98 flX2_15 rfl rfl rfl ?_
    rw [ep, t1]
    refine aw_icmp_ge (tg := 206) dX2_readPiece_101 (by decide) (by omega) (fun h101 => absurd h101 (by omega)) (fun h101 => ?_)
    refine aw_aload_n dX2_readPiece_104 rfl ?_
    refine aw_getR dX2_readPiece_105 flX2_11 rfl rfl ?_
    refine aw_aload_n dX2_readPiece_108 rfl ?_
    refine aw_getI (kz := 6) dX2_readPiece_109 flX2_32 rfl rfl rfl ?_
    rw [ep]
    refine aw_bald dX2_readPiece_112 rfl (by omega) ?_
    rw [hb]
    refine aw_S1 dX2_readPiece_113 okX2_isLetter lkX2_72 rfl ?_
    refine tX2_isLetter _ (by omega) ?_
    refine aw_ifeq_b (tg := 206) dX2_readPiece_116 (by decide) (fun h116 => ?_) (fun h116 => ?_)
    · refine aw_vret dX2_readPiece_206 rfl ?_
      exact hQ g hp h5 h4 (by rw [ep, ← he]; exact (rn_n (fun k => h116 k.2)).symm)
    · refine aw_aload_n dX2_readPiece_119 rfl ?_
      refine aw_dup dX2_readPiece_120 rfl ?_
      refine aw_getI (kz := 6) dX2_readPiece_121 flX2_32 rfl rfl rfl ?_
      refine aw_iconst dX2_readPiece_124 ?_
      rw [ep]
      refine aw_iadd dX2_readPiece_125 ?_
      refine aw_putI (kz := 6) dX2_readPiece_126 flX2_32 fi_2_6 rfl rfl rfl  ?_
      refine aw_goto (tg := 93) dX2_readPiece_129 (by decide) ?_
      exact ih (p + 1) _ (by omega) (by omega) (by rw [← he]; exact (rn_y (by omega) h116).symm) (sp_up_s _ _ _ _) (hp.up (by omega)) (by rw [sp_up_i _ _ _ _ (by decide)]; exact h5) (by rw [sp_up_i _ _ _ _ (by decide)]; exact h4)
theorem lX2_rpn (d : Nat) {B : Int} {Z : zZ} {g0 : sp_G} {Q : sp_P} (hR : cRep g0 Z) (hV : zV B Z) {e : Int} (hQ : ∀ g2 : sp_G, pcP g0 g2 → g2 49 5 = g0 49 5 → g2 49 4 = g0 49 4 → g2 49 6 = e → Q none g2) :
    ∀ (n : Nat) (p : Int) (g : sp_G), 0 ≤ p → p + n = (zl Z) → rn 48 57 (zx Z) (zl Z) p = e → g 49 6 = p → pcP g0 g → g 49 5 = g0 49 5 → g 49 4 = g0 49 4 → sp_AW mX2_readPiece (d + 2) 152 [some (v_r 49)] [] g Q := by
  have hx := zV_x hV
  intro n
  induction n with
  | zero =>
    intro p g h0 hn he ep hp h5 h4
    have t1 : g 49 1 = (zl Z) := by rw [hp.2.1]; exact hR.tx.1
    refine aw_aload_n dX2_readPiece_152 rfl ?_
    refine aw_getI (kz := 6) dX2_readPiece_153 flX2_32 rfl rfl rfl ?_
    refine aw_aload_n dX2_readPiece_156 rfl ?_
    refine aw_getI (kz := 1) dX2_readPiece_157 flX2_15 rfl rfl rfl ?_
    rw [ep, t1]
    refine aw_icmp_ge (tg := 206) dX2_readPiece_160 (by decide) (by omega) (fun h160 => ?_) (fun h160 => absurd h160 (by omega))
    refine aw_vret dX2_readPiece_206 rfl ?_
    exact hQ g hp h5 h4 (by rw [ep, ← he]; exact (rn_n (fun k => by omega)).symm)
  | succ n ih =>
    intro p g h0 hn he ep hp h5 h4
    have t1 : g 49 1 = (zl Z) := by rw [hp.2.1]; exact hR.tx.1
    have hb : g 50 p = (zx Z) p := by rw [hp.1 50 (by decide)]; exact hR.tx.2 p p h0 (by omega) (by omega)
    have xb := hx.2 p h0 (by omega)
    refine aw_aload_n dX2_readPiece_152 rfl ?_
    refine aw_getI (kz := 6) dX2_readPiece_153 flX2_32 rfl rfl rfl ?_
    refine aw_aload_n dX2_readPiece_156 rfl ?_
    refine aw_getI (kz := 1) dX2_readPiece_157 flX2_15 rfl rfl rfl ?_
    rw [ep, t1]
    refine aw_icmp_ge (tg := 206) dX2_readPiece_160 (by decide) (by omega) (fun h160 => absurd h160 (by omega)) (fun h160 => ?_)
    refine aw_aload_n dX2_readPiece_163 rfl ?_
    refine aw_getR dX2_readPiece_164 flX2_11 rfl rfl ?_
    refine aw_aload_n dX2_readPiece_167 rfl ?_
    refine aw_getI (kz := 6) dX2_readPiece_168 flX2_32 rfl rfl rfl ?_
    rw [ep]
    refine aw_bald dX2_readPiece_171 rfl (by omega) ?_
    rw [hb]
    refine aw_S1 dX2_readPiece_172 okX2_isFigure lkX2_76 rfl ?_
    refine tX2_isFigure _ (by omega) ?_
    refine aw_ifeq_b (tg := 206) dX2_readPiece_175 (by decide) (fun h175 => ?_) (fun h175 => ?_)
    · refine aw_vret dX2_readPiece_206 rfl ?_
      exact hQ g hp h5 h4 (by rw [ep, ← he]; exact (rn_n (fun k => h175 k.2)).symm)
    · refine aw_aload_n dX2_readPiece_178 rfl ?_
      refine aw_dup dX2_readPiece_179 rfl ?_
      refine aw_getI (kz := 6) dX2_readPiece_180 flX2_32 rfl rfl rfl ?_
      refine aw_iconst dX2_readPiece_183 ?_
      rw [ep]
      refine aw_iadd dX2_readPiece_184 ?_
      refine aw_putI (kz := 6) dX2_readPiece_185 flX2_32 fi_2_6 rfl rfl rfl  ?_
      refine aw_goto (tg := 152) dX2_readPiece_188 (by decide) ?_
      exact ih (p + 1) _ (by omega) (by omega) (by rw [← he]; exact (rn_y (by omega) h175).symm) (sp_up_s _ _ _ _) (hp.up (by omega)) (by rw [sp_up_i _ _ _ _ (by decide)]; exact h5) (by rw [sp_up_i _ _ _ _ (by decide)]; exact h4)
theorem lX2_rps (d : Nat) {B : Int} {Z : zZ} {g0 : sp_G} {Q : sp_P} (hR : cRep g0 Z) (hV : zV B Z) {q : Int} (hQ : ∀ g2 : sp_G, pcP g0 g2 → g2 49 5 = q → sp_AW mX2_readPiece (d + 2) 46 [some (v_r 49)] [] g2 Q) :
    ∀ (n : Nat) (p : Int) (g : sp_G), 0 ≤ p → p + n = (zl Z) → sk (zx Z) (zl Z) p = q → g 49 5 = p → pcP g0 g → sp_AW mX2_readPiece (d + 2) 8 [some (v_r 49)] [] g Q := by
  have hx := zV_x hV
  intro n
  induction n with
  | zero =>
    intro p g h0 hn he ep hp
    have t1 : g 49 1 = (zl Z) := by rw [hp.2.1]; exact hR.tx.1
    refine aw_aload_n dX2_readPiece_8 rfl ?_
    refine aw_getI (kz := 5) dX2_readPiece_9 flX2_29 rfl rfl rfl ?_
    refine aw_aload_n dX2_readPiece_12 rfl ?_
    refine aw_getI (kz := 1) dX2_readPiece_13 flX2_15 rfl rfl rfl ?_
    rw [ep, t1]
    refine aw_icmp_ge (tg := 46) dX2_readPiece_16 (by decide) (by omega) (fun h16 => ?_) (fun h16 => absurd h16 (by omega))
    exact hQ g hp (by rw [ep, ← he]; exact (rn_n (fun k => by omega)).symm)
  | succ n ih =>
    intro p g h0 hn he ep hp
    have t1 : g 49 1 = (zl Z) := by rw [hp.2.1]; exact hR.tx.1
    have hb : g 50 p = (zx Z) p := by rw [hp.1 50 (by decide)]; exact hR.tx.2 p p h0 (by omega) (by omega)
    have xb := hx.2 p h0 (by omega)
    refine aw_aload_n dX2_readPiece_8 rfl ?_
    refine aw_getI (kz := 5) dX2_readPiece_9 flX2_29 rfl rfl rfl ?_
    refine aw_aload_n dX2_readPiece_12 rfl ?_
    refine aw_getI (kz := 1) dX2_readPiece_13 flX2_15 rfl rfl rfl ?_
    rw [ep, t1]
    refine aw_icmp_ge (tg := 46) dX2_readPiece_16 (by decide) (by omega) (fun h16 => absurd h16 (by omega)) (fun h16 => ?_)
    refine aw_aload_n dX2_readPiece_19 rfl ?_
    refine aw_getR dX2_readPiece_20 flX2_11 rfl rfl ?_
    refine aw_aload_n dX2_readPiece_23 rfl ?_
    refine aw_getI (kz := 5) dX2_readPiece_24 flX2_29 rfl rfl rfl ?_
    rw [ep]
    refine aw_bald dX2_readPiece_27 rfl (by omega) ?_
    rw [hb]
    refine aw_bipush dX2_readPiece_28 (by decide) ?_
    refine aw_icmp_ne (tg := 46) dX2_readPiece_30 (by decide) (by omega) (fun h30 => ?_) (fun h30 => ?_)
    · exact hQ g hp (by rw [ep, ← he]; exact (rn_n (fun k => by omega)).symm)
    · refine aw_aload_n dX2_readPiece_33 rfl ?_
      refine aw_dup dX2_readPiece_34 rfl ?_
      refine aw_getI (kz := 5) dX2_readPiece_35 flX2_29 rfl rfl rfl ?_
      refine aw_iconst dX2_readPiece_38 ?_
      rw [ep]
      refine aw_iadd dX2_readPiece_39 ?_
      refine aw_putI (kz := 5) dX2_readPiece_40 flX2_29 fi_2_5 rfl rfl rfl  ?_
      refine aw_goto (tg := 8) dX2_readPiece_43 (by decide) ?_
      exact ih (p + 1) _ (by omega) (by omega) (by rw [← he]; exact (rn_y (by omega) (by omega)).symm) (sp_up_s _ _ _ _) (hp.up (by omega))
theorem zX2_readPiece (d : Nat) {B : Int} {Z : zZ} {p : Int} {g : sp_G} {Q : sp_P} (hR : cRep g Z) (hV : zV B Z) (ep : g 49 6 = p) (hp : 0 ≤ p ∧ p ≤ (zl Z)) (hQ : ∀ g2 : sp_G, pcP g g2 → pc g2 (zx Z) (zl Z) (sk (zx Z) (zl Z) p) → Q none g2) : sp_Met (d + 2) mX2_readPiece [v_r 49] g Q := by
  have hx := zV_x hV
  have hs := (sk_b (x := (zx Z)) hp.2).1
  refine sp_of (L := [_]) (by decide) (Nat.le_of_ble_eq_true rfl) rfl rfl ?_
  refine aw_aload_n dX2_readPiece_0 rfl ?_
  refine aw_aload_n dX2_readPiece_1 rfl ?_
  refine aw_getI (kz := 6) dX2_readPiece_2 flX2_32 rfl rfl rfl ?_
  rw [ep]
  refine aw_putI (kz := 5) dX2_readPiece_5 flX2_29 fi_2_5 rfl rfl rfl  ?_
  refine lX2_rps _ hR hV (q := sk (zx Z) (zl Z) p) (fun g2 f2 e2 => ?_) ((zl Z) - p).toNat p _ hp.1 (by omega) rfl (sp_up_s _ _ _ _) (pcP.rf.up (by omega))
  have t1 : ∀ g9, pcP g g9 → g9 49 1 = (zl Z) := fun g9 h9 => by rw [h9.2.1]; exact hR.tx.1
  have hb : ∀ g9, pcP g g9 → sk (zx Z) (zl Z) p < (zl Z) → g9 50 (sk (zx Z) (zl Z) p) = (zx Z) (sk (zx Z) (zl Z) p) := fun g9 h9 h8 => by rw [h9.1 50 (by decide)]; exact hR.tx.2 _ _ (by omega) h8 (by omega)
  have xb := fun h8 => hx.2 (sk (zx Z) (zl Z) p) (by omega) h8
  generalize sk (zx Z) (zl Z) p = q at *
  have f3 : pcP g (sp_up g2 49 6 q) := f2.up (by omega)
  have e35 : sp_up g2 49 6 q 49 5 = q := by rw [sp_up_i _ _ _ _ (by decide)]; exact e2
  have e36 : sp_up g2 49 6 q 49 6 = q := sp_up_s _ _ _ _
  refine aw_aload_n dX2_readPiece_46 rfl ?_
  refine aw_aload_n dX2_readPiece_47 rfl ?_
  refine aw_getI (kz := 5) dX2_readPiece_48 flX2_29 rfl rfl rfl ?_
  rw [e2]
  refine aw_putI (kz := 6) dX2_readPiece_51 flX2_32 fi_2_6 rfl rfl rfl  ?_
  refine aw_aload_n dX2_readPiece_54 rfl ?_
  refine aw_getI (kz := 5) dX2_readPiece_55 flX2_29 rfl rfl rfl ?_
  refine aw_aload_n dX2_readPiece_58 rfl ?_
  refine aw_getI (kz := 1) dX2_readPiece_59 flX2_15 rfl rfl rfl ?_
  rw [e35, t1 _ f3]
  refine aw_icmp_lt (tg := 73) dX2_readPiece_62 (by decide) (by omega) (fun h62 => ?_) (fun h62 => ?_)
  · refine aw_aload_n dX2_readPiece_73 rfl ?_
    refine aw_getR dX2_readPiece_74 flX2_11 rfl rfl ?_
    refine aw_aload_n dX2_readPiece_77 rfl ?_
    refine aw_getI (kz := 5) dX2_readPiece_78 flX2_29 rfl rfl rfl ?_
    rw [e35]
    refine aw_bald dX2_readPiece_81 rfl (by omega) ?_
    rw [hb _ f3 (by omega)]
    have xb := xb (by omega)
    refine aw_S1 dX2_readPiece_82 okX2_isLetter lkX2_72 rfl ?_
    refine tX2_isLetter _ (by omega) ?_
    refine aw_ifeq_b (tg := 132) dX2_readPiece_85 (by decide) (fun h85 => ?_) (fun h85 => ?_)
    · refine aw_aload_n dX2_readPiece_132 rfl ?_
      refine aw_getR dX2_readPiece_133 flX2_11 rfl rfl ?_
      refine aw_aload_n dX2_readPiece_136 rfl ?_
      refine aw_getI (kz := 5) dX2_readPiece_137 flX2_29 rfl rfl rfl ?_
      rw [e35]
      refine aw_bald dX2_readPiece_140 rfl (by omega) ?_
      rw [hb _ f3 (by omega)]
      refine aw_S1 dX2_readPiece_141 okX2_isFigure lkX2_76 rfl ?_
      refine tX2_isFigure _ (by omega) ?_
      refine aw_ifeq_b (tg := 191) dX2_readPiece_144 (by decide) (fun h144 => ?_) (fun h144 => ?_)
      · refine aw_aload_n dX2_readPiece_191 rfl ?_
        refine aw_iconst dX2_readPiece_192 ?_
        refine aw_putI (kz := 4) dX2_readPiece_193 flX2_26 fi_2_4 rfl rfl rfl  ?_
        refine aw_aload_n dX2_readPiece_196 rfl ?_
        refine aw_dup dX2_readPiece_197 rfl ?_
        refine aw_getI (kz := 6) dX2_readPiece_198 flX2_32 rfl rfl rfl ?_
        refine aw_iconst dX2_readPiece_201 ?_
        rw [sp_up_i _ _ _ _ (by decide), e36]
        refine aw_iadd dX2_readPiece_202 ?_
        refine aw_putI (kz := 6) dX2_readPiece_203 flX2_32 fi_2_6 rfl rfl rfl  ?_
        refine aw_vret dX2_readPiece_206 rfl ?_
        exact hQ _ ((f3.up (by omega)).up (by omega)) ⟨by rw [sp_up_i _ _ _ _ (by decide), sp_up_i _ _ _ _ (by decide)]; exact e35, by rw [sp_up_i _ _ _ _ (by decide), sp_up_s]; unfold kd; rw [if_pos (by omega), if_neg h85, if_neg h144], by rw [sp_up_s]; unfold bh; rw [if_pos (by omega), if_neg h85, if_neg h144]⟩
      · refine aw_aload_n dX2_readPiece_147 rfl ?_
        refine aw_iconst dX2_readPiece_148 ?_
        refine aw_putI (kz := 4) dX2_readPiece_149 flX2_26 fi_2_4 rfl rfl rfl  ?_
        refine lX2_rpn _ (hR.sc (f3.up (x := 2) (i := 4) (by omega)).s.f) hV (e := rn 48 57 (zx Z) (zl Z) q) (fun g4 p4 h5 h4 h6 => ?_) ((zl Z) - q).toNat q _ (by omega) (by omega) rfl (by rw [sp_up_i _ _ _ _ (by decide)]; exact e36) pcP.rf rfl rfl
        refine hQ g4 ((f3.up (by omega)).tr p4) ⟨?_, ?_, ?_⟩
        · rw [h5, sp_up_i _ _ _ _ (by decide)]; exact e35
        · rw [h4, sp_up_s]; unfold kd; rw [if_pos (by omega), if_neg h85, if_pos h144]
        · rw [h6]; unfold bh; rw [if_pos (by omega), if_neg h85, if_pos h144]
    · refine aw_aload_n dX2_readPiece_88 rfl ?_
      refine aw_iconst dX2_readPiece_89 ?_
      refine aw_putI (kz := 4) dX2_readPiece_90 flX2_26 fi_2_4 rfl rfl rfl  ?_
      refine lX2_rpw _ (hR.sc (f3.up (x := 1) (i := 4) (by omega)).s.f) hV (e := rn 97 122 (zx Z) (zl Z) q) (fun g4 p4 h5 h4 h6 => ?_) ((zl Z) - q).toNat q _ (by omega) (by omega) rfl (by rw [sp_up_i _ _ _ _ (by decide)]; exact e36) pcP.rf rfl rfl
      refine hQ g4 ((f3.up (by omega)).tr p4) ⟨?_, ?_, ?_⟩
      · rw [h5, sp_up_i _ _ _ _ (by decide)]; exact e35
      · rw [h4, sp_up_s]; unfold kd; rw [if_pos (by omega), if_pos h85]
      · rw [h6]; unfold bh; rw [if_pos (by omega), if_pos h85]
  · refine aw_aload_n dX2_readPiece_65 rfl ?_
    refine aw_iconst dX2_readPiece_66 ?_
    refine aw_putI (kz := 4) dX2_readPiece_67 flX2_26 fi_2_4 rfl rfl rfl  ?_
    refine aw_goto (tg := 206) dX2_readPiece_70 (by decide) ?_
    refine aw_vret dX2_readPiece_206 rfl ?_
    exact hQ _ (f3.up (by omega)) ⟨by rw [sp_up_i _ _ _ _ (by decide)]; exact e35, by rw [sp_up_s]; unfold kd; rw [if_neg (by omega)], by rw [sp_up_i _ _ _ _ (by decide), e36]; unfold bh; rw [if_neg (by omega)]⟩
