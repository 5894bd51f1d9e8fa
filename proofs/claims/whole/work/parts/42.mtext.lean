/-- the reference reads: its place and its numbers change -/
def atM (g g2 : sp_G) : Prop := sp_fr [52, 58] g g2 ∧ ∀ j, j ≠ 7 → g2 52 j = g 52 j
theorem atM.rf {g : sp_G} : atM g g := ⟨sp_fr.rf, fun _ _ => rfl⟩
theorem atM.tr {g g2 g3 : sp_G} (h : atM g g2) (h2 : atM g2 g3) : atM g g3 := ⟨h.1.tr h2.1 (fun _ q => q), fun j a => (h2.2 j a).trans (h.2 j a)⟩
theorem atM.at {g g2 : sp_G} {x : Int} (h : atM g g2) : atM g (sp_up g2 52 7 x) := ⟨h.1.up (by decide), fun j a => by rw [sp_up_i _ _ _ _ a]; exact h.2 j a⟩
theorem atM.nu {g g2 : sp_G} {i x : Int} (h : atM g g2) : atM g (sp_up g2 58 i x) := ⟨h.1.up (by decide), fun j a => by rw [sp_up_o _ _ _ _ (by decide)]; exact h.2 j a⟩
theorem atM.sc {g g2 : sp_G} (h : atM g g2) : scM g g2 := ⟨h.1.wk (by decide), h.2 2 (by decide), h.2 6 (by decide)⟩
theorem zV_x {B : Int} {Z : zZ} (h : zV B Z) : (0 ≤ (zl Z) ∧ (zl Z) ≤ 120) ∧ ∀ i, 0 ≤ i → i < (zl Z) → 0 ≤ (zx Z) i ∧ (zx Z) i ≤ 127 := h.2.2.2.2.2
theorem mRep.tx {g : sp_G} {Z : zZ} (h : mRep g Z) : g 52 6 = (zl Z) ∧ rH g 57 0 (zl Z) (zx Z) ∧ rH g 59 0 24 wds := ⟨h.2.2.2.2.2.1, h.2.2.2.2.2.2.1, h.2.2.2.2.2.2.2⟩
def bA (Z : zZ) (k : Int) : Int := if k < (zl Z) then (zx Z) k else -1
theorem bA_b {B : Int} {Z : zZ} {k : Int} (hV : zV B Z) (hk : 0 ≤ k) : -1 ≤ bA Z k ∧ bA Z k ≤ 127 := by
  unfold bA
  by_cases h : k < (zl Z)
  · rw [if_pos h]
    have := (zV_x hV).2 k hk h
    omega
  · rw [if_neg h]; omega
theorem bA_i {Z : zZ} {k lo hi : Int} (h0 : 0 ≤ lo) : (lo ≤ bA Z k ∧ bA Z k ≤ hi) ↔ (k < (zl Z) ∧ lo ≤ (zx Z) k ∧ (zx Z) k ≤ hi) := by
  unfold bA
  by_cases h : k < (zl Z)
  · rw [if_pos h]; simp [h]
  · rw [if_neg h]; constructor
    · intro q; omega
    · intro q; exact absurd q.1 h
theorem tX6_byteAt (d : Nat) {B : Int} {Z : zZ} {k : Int} {g : sp_G} {Q : sp_P} (hR : mRep g Z) (hV : zV B Z) (hk : 0 ≤ k ∧ k ≤ 1000) (hQ : Q (some (v_i (bA Z k))) g) : sp_Met d mX6_byteAt [v_r 52, v_i k] g Q := by
  have ht := hR.tx
  have hx := (zV_x hV).1
  refine sp_of (L := [_, _]) (by decide) (Nat.le_of_ble_eq_true rfl) rfl rfl ?_
  refine aw_iload_n dX6_byteAt_0 rfl ?_
  refine aw_aload_n dX6_byteAt_1 rfl ?_
  refine aw_getI (kz := 6) dX6_byteAt_2 flX6_115 rfl rfl rfl ?_
  rw [ht.1]
  refine aw_icmp_ge (tg := 17) dX6_byteAt_5 (by decide) (by omega) (fun h5 => ?_) (fun h5 => ?_)
  · refine aw_iconst dX6_byteAt_17 ?_
    refine aw_iret dX6_byteAt_18 rfl ?_
    unfold bA at hQ
    rwa [if_neg (by omega)] at hQ
  · refine aw_aload_n dX6_byteAt_8 rfl ?_
    refine aw_getR dX6_byteAt_9 flX6_22 rfl rfl ?_
    refine aw_iload_n dX6_byteAt_12 rfl ?_
    refine aw_iald dX6_byteAt_13 rfl (by omega) ?_
    refine aw_goto (tg := 18) dX6_byteAt_14 (by decide) ?_
    refine aw_iret dX6_byteAt_18 rfl ?_
    unfold bA at hQ
    rw [ht.2.1 k k (by omega) (by omega) (by omega)]
    rwa [if_pos (by omega)] at hQ
theorem lX6_skips (d : Nat) {B : Int} {Z : zZ} {g0 : sp_G} {Q : sp_P} (hR : mRep g0 Z) (hV : zV B Z) {q : Int} (hQ : ∀ g2 : sp_G, atM g0 g2 → (∀ j, g2 58 j = g0 58 j) → g2 52 7 = q → Q none g2) :
    ∀ (n : Nat) (p : Int) (g : sp_G), 0 ≤ p → p + n = (zl Z) → sk (zx Z) (zl Z) p = q → g 52 7 = p → atM g0 g → (∀ j, g 58 j = g0 58 j) → sp_AW mX6_skips (d + 1) 0 [some (v_r 52)] [] g Q := by
  have hx := zV_x hV
  intro n
  induction n with
  | zero =>
    intro p g h0 hn hq ep ha hj
    have bb := bA_b hV h0
    have hne : ¬ bA Z p = 32 := by unfold bA; rw [if_neg (by omega)]; omega
    refine aw_aload_n dX6_skips_0 rfl ?_
    refine aw_aload_n dX6_skips_1 rfl ?_
    refine aw_getI (kz := 7) dX6_skips_2 flX6_118 rfl rfl rfl ?_
    rw [ep]
    refine aw_V1 dX6_skips_5 okX6_byteAt lkX6_121 rfl rfl rfl ?_
    refine tX6_byteAt _ (hR.sc ha.sc) hV (by omega) ?_
    refine aw_bipush dX6_skips_8 (by decide) ?_
    refine aw_icmp_ne (tg := 26) dX6_skips_10 (by decide) (by omega) (fun h10 => ?_) (fun h10 => absurd h10 hne)
    refine aw_vret dX6_skips_26 rfl ?_
    exact hQ g ha hj (by rw [ep, ← hq]; exact (rn_n (fun k => by omega)).symm)
  | succ n ih =>
    intro p g h0 hn hq ep ha hj
    have bb := bA_b hV h0
    have hb : bA Z p = (zx Z) p := by unfold bA; rw [if_pos (by omega)]
    refine aw_aload_n dX6_skips_0 rfl ?_
    refine aw_aload_n dX6_skips_1 rfl ?_
    refine aw_getI (kz := 7) dX6_skips_2 flX6_118 rfl rfl rfl ?_
    rw [ep]
    refine aw_V1 dX6_skips_5 okX6_byteAt lkX6_121 rfl rfl rfl ?_
    refine tX6_byteAt _ (hR.sc ha.sc) hV (by omega) ?_
    refine aw_bipush dX6_skips_8 (by decide) ?_
    refine aw_icmp_ne (tg := 26) dX6_skips_10 (by decide) (by omega) (fun h10 => ?_) (fun h10 => ?_)
    · refine aw_vret dX6_skips_26 rfl ?_
      exact hQ g ha hj (by rw [ep, ← hq]; exact (rn_n (fun k => by omega)).symm)
    · refine aw_aload_n dX6_skips_13 rfl ?_
      refine aw_dup dX6_skips_14 rfl ?_
      refine aw_getI (kz := 7) dX6_skips_15 flX6_118 rfl rfl rfl ?_
      
      refine aw_iconst dX6_skips_18 ?_
      rw [ep]
      refine aw_iadd dX6_skips_19 ?_
      refine aw_putI (kz := 7) dX6_skips_20 flX6_118 fi_6_7 rfl rfl rfl  ?_
      refine aw_goto (tg := 0) dX6_skips_23 (by decide) ?_
      refine ih (p + 1) _ (by omega) (by omega) (by rw [← hq]; exact (rn_y (by omega) (by omega)).symm) (sp_up_s _ _ _ _) ha.at (fun j => by rw [sp_up_o _ _ _ _ (by decide)]; exact hj j)
theorem zX6_skips (d : Nat) {B : Int} {Z : zZ} {p : Int} {g : sp_G} {Q : sp_P} (hR : mRep g Z) (hV : zV B Z) (ep : g 52 7 = p) (hp : 0 ≤ p ∧ p ≤ (zl Z)) (hQ : ∀ g2 : sp_G, atM g g2 → (∀ j, g2 58 j = g 58 j) → g2 52 7 = sk (zx Z) (zl Z) p → Q none g2) : sp_Met (d + 1) mX6_skips [v_r 52] g Q := by
  refine sp_of (L := [_]) (by decide) (Nat.le_of_ble_eq_true rfl) rfl rfl ?_
  exact lX6_skips _ hR hV hQ ((zl Z) - p).toNat p g hp.1 (by omega) rfl ep atM.rf (fun _ => rfl)
theorem lX6_isNum2 (d : Nat) {B : Int} {Z : zZ} {wh lo hi q e k v : Int} {x6 : Option sp_V} {g : sp_G} {Q : sp_P} (hR : mRep g Z) (hV : zV B Z) (hwh : 0 ≤ wh ∧ wh < 4) (eq : g 52 7 = q) (hq : 0 ≤ q ∧ q ≤ e ∧ e ≤ (zl Z)) (hk : (k = e ∧ e ≤ q + 2) ∨ (k = q + 3 ∧ q + 3 ≤ e)) (hv : v = dv (zx Z) q (k - q)) (hvb : 0 ≤ v ∧ v ≤ 999) (hb : (0 ≤ lo ∧ lo ≤ 99) ∧ (0 ≤ hi ∧ hi ≤ 99))
    (hQ1 : ((q < e ∧ e ≤ q + 2) ∧ lo ≤ dv (zx Z) q (e - q) ∧ dv (zx Z) q (e - q) ≤ hi) → ∀ g2 : sp_G, atM g g2 → (∀ j, j ≠ wh → g2 58 j = g 58 j) → g2 58 wh = dv (zx Z) q (e - q) → g2 52 7 = e → Q (some (v_i 1)) g2) (hQ0 : ¬ ((q < e ∧ e ≤ q + 2) ∧ lo ≤ dv (zx Z) q (e - q) ∧ dv (zx Z) q (e - q) ≤ hi) → ∀ g2 : sp_G, atM g g2 → (∀ j, j ≠ wh → g2 58 j = g 58 j) → g2 52 7 = q → Q (some (v_i 0)) g2) : sp_AW mX6_isNumber (d + 2) 64 [some (v_r 52), some (v_i wh), some (v_i lo), some (v_i hi), some (v_i k), some (v_i v), x6] [] g Q := by
  have hx := zV_x hV
  have he : k = e → v = dv (zx Z) q (e - q) := fun h => by rw [hv, h]
  refine aw_iload dX6_isNumber_64 rfl ?_
  refine aw_aload_n dX6_isNumber_66 rfl ?_
  refine aw_getI (kz := 7) dX6_isNumber_67 flX6_118 rfl rfl rfl ?_
  rw [eq]
  refine aw_icmp_le (tg := 98) dX6_isNumber_70 (by decide) (by omega) (fun h70 => ?_) (fun h70 => ?_)
  · refine aw_iconst dX6_isNumber_98 ?_
    have hn9 : ¬ ((q < e ∧ e ≤ q + 2) ∧ lo ≤ dv (zx Z) q (e - q) ∧ dv (zx Z) q (e - q) ≤ hi) := by
      rcases hk with ⟨c, c2⟩ | c
      · have := he c
        omega
      · omega
    refine aw_istore (L2 := [_, _, _, _, _, _, _]) dX6_isNumber_99 (by decide) rfl rfl ?_
    refine aw_aload_n dX6_isNumber_101 rfl ?_
    refine aw_getR dX6_isNumber_102 flX6_25 rfl rfl ?_
    refine aw_iload_n dX6_isNumber_105 rfl ?_
    refine aw_iload dX6_isNumber_106 rfl ?_
    refine aw_iast dX6_isNumber_108 rfl (by omega) ?_
    refine aw_aload_n dX6_isNumber_109 rfl ?_
    refine aw_iload dX6_isNumber_110 rfl ?_
    refine aw_if_eq (tg := 120) dX6_isNumber_112 (by decide) (by omega) (fun j112 => ?_) (fun j112 => absurd j112 (by omega))
    refine aw_aload_n dX6_isNumber_120 rfl ?_
    refine aw_getI (kz := 7) dX6_isNumber_121 flX6_118 rfl rfl rfl ?_
    rw [sp_up_o _ _ _ _ (by decide), eq]
    refine aw_putI (kz := 7) dX6_isNumber_124 flX6_118 fi_6_7 rfl rfl rfl  ?_
    refine aw_iload dX6_isNumber_127 rfl ?_
    refine aw_zret dX6_isNumber_129 rfl (by omega) ?_
    refine hQ0 hn9 _ atM.rf.nu.at (fun j hj => ?_) (sp_up_s _ _ _ _)
    rw [sp_up_o _ _ _ _ (by decide), sp_up_i _ _ _ _ hj]
  · refine aw_iload dX6_isNumber_73 rfl ?_
    refine aw_aload_n dX6_isNumber_75 rfl ?_
    refine aw_getI (kz := 7) dX6_isNumber_76 flX6_118 rfl rfl rfl ?_
    rw [eq]
    refine aw_isub dX6_isNumber_79 ?_
    refine aw_iconst dX6_isNumber_80 ?_
    refine aw_icmp_ge (tg := 98) dX6_isNumber_81 (by decide) (by omega) (fun h81 => ?_) (fun h81 => ?_)
    · refine aw_iconst dX6_isNumber_98 ?_
      have hn9 : ¬ ((q < e ∧ e ≤ q + 2) ∧ lo ≤ dv (zx Z) q (e - q) ∧ dv (zx Z) q (e - q) ≤ hi) := by
        rcases hk with ⟨c, c2⟩ | c
        · have := he c
          omega
        · omega
      refine aw_istore (L2 := [_, _, _, _, _, _, _]) dX6_isNumber_99 (by decide) rfl rfl ?_
      refine aw_aload_n dX6_isNumber_101 rfl ?_
      refine aw_getR dX6_isNumber_102 flX6_25 rfl rfl ?_
      refine aw_iload_n dX6_isNumber_105 rfl ?_
      refine aw_iload dX6_isNumber_106 rfl ?_
      refine aw_iast dX6_isNumber_108 rfl (by omega) ?_
      refine aw_aload_n dX6_isNumber_109 rfl ?_
      refine aw_iload dX6_isNumber_110 rfl ?_
      refine aw_if_eq (tg := 120) dX6_isNumber_112 (by decide) (by omega) (fun j112 => ?_) (fun j112 => absurd j112 (by omega))
      refine aw_aload_n dX6_isNumber_120 rfl ?_
      refine aw_getI (kz := 7) dX6_isNumber_121 flX6_118 rfl rfl rfl ?_
      rw [sp_up_o _ _ _ _ (by decide), eq]
      refine aw_putI (kz := 7) dX6_isNumber_124 flX6_118 fi_6_7 rfl rfl rfl  ?_
      refine aw_iload dX6_isNumber_127 rfl ?_
      refine aw_zret dX6_isNumber_129 rfl (by omega) ?_
      refine hQ0 hn9 _ atM.rf.nu.at (fun j hj => ?_) (sp_up_s _ _ _ _)
      rw [sp_up_o _ _ _ _ (by decide), sp_up_i _ _ _ _ hj]
    · refine aw_iload dX6_isNumber_84 rfl ?_
      refine aw_iload_n dX6_isNumber_86 rfl ?_
      refine aw_iload_n dX6_isNumber_87 rfl ?_
      refine aw_S3 dX6_isNumber_88 okX6_in lkX6_53 rfl ?_
      refine tX6_in _ (by omega) ?_
      refine aw_ifeq_b (tg := 98) dX6_isNumber_91 (by decide) (fun h91 => ?_) (fun h91 => ?_)
      · refine aw_iconst dX6_isNumber_98 ?_
        have hn9 : ¬ ((q < e ∧ e ≤ q + 2) ∧ lo ≤ dv (zx Z) q (e - q) ∧ dv (zx Z) q (e - q) ≤ hi) := by
          rcases hk with ⟨c, c2⟩ | c
          · have := he c
            omega
          · omega
        refine aw_istore (L2 := [_, _, _, _, _, _, _]) dX6_isNumber_99 (by decide) rfl rfl ?_
        refine aw_aload_n dX6_isNumber_101 rfl ?_
        refine aw_getR dX6_isNumber_102 flX6_25 rfl rfl ?_
        refine aw_iload_n dX6_isNumber_105 rfl ?_
        refine aw_iload dX6_isNumber_106 rfl ?_
        refine aw_iast dX6_isNumber_108 rfl (by omega) ?_
        refine aw_aload_n dX6_isNumber_109 rfl ?_
        refine aw_iload dX6_isNumber_110 rfl ?_
        refine aw_if_eq (tg := 120) dX6_isNumber_112 (by decide) (by omega) (fun j112 => ?_) (fun j112 => absurd j112 (by omega))
        refine aw_aload_n dX6_isNumber_120 rfl ?_
        refine aw_getI (kz := 7) dX6_isNumber_121 flX6_118 rfl rfl rfl ?_
        rw [sp_up_o _ _ _ _ (by decide), eq]
        refine aw_putI (kz := 7) dX6_isNumber_124 flX6_118 fi_6_7 rfl rfl rfl  ?_
        refine aw_iload dX6_isNumber_127 rfl ?_
        refine aw_zret dX6_isNumber_129 rfl (by omega) ?_
        refine hQ0 hn9 _ atM.rf.nu.at (fun j hj => ?_) (sp_up_s _ _ _ _)
        rw [sp_up_o _ _ _ _ (by decide), sp_up_i _ _ _ _ hj]
      · refine aw_iconst dX6_isNumber_94 ?_
        refine aw_goto (tg := 99) dX6_isNumber_95 (by decide) ?_
        have ke : k = e := by omega
        have hv9 := he ke
        refine aw_istore (L2 := [_, _, _, _, _, _, _]) dX6_isNumber_99 (by decide) rfl rfl ?_
        refine aw_aload_n dX6_isNumber_101 rfl ?_
        refine aw_getR dX6_isNumber_102 flX6_25 rfl rfl ?_
        refine aw_iload_n dX6_isNumber_105 rfl ?_
        refine aw_iload dX6_isNumber_106 rfl ?_
        refine aw_iast dX6_isNumber_108 rfl (by omega) ?_
        refine aw_aload_n dX6_isNumber_109 rfl ?_
        refine aw_iload dX6_isNumber_110 rfl ?_
        refine aw_if_eq (tg := 120) dX6_isNumber_112 (by decide) (by omega) (fun j112 => absurd j112 (by omega)) (fun j112 => ?_)
        refine aw_iload dX6_isNumber_115 rfl ?_
        refine aw_goto (tg := 124) dX6_isNumber_117 (by decide) ?_
        refine aw_putI (kz := 7) dX6_isNumber_124 flX6_118 fi_6_7 rfl rfl rfl  ?_
        refine aw_iload dX6_isNumber_127 rfl ?_
        refine aw_zret dX6_isNumber_129 rfl (by omega) ?_
        rw [ke]
        refine hQ1 (by rw [← hv9]; omega) _ atM.rf.nu.at (fun j hj => ?_) ?_ (sp_up_s _ _ _ _)
        · rw [sp_up_o _ _ _ _ (by decide), sp_up_i _ _ _ _ hj]
        · rw [sp_up_o _ _ _ _ (by decide), sp_up_s, hv9]
theorem lX6_isNum1 (d : Nat) {B : Int} {Z : zZ} {wh lo hi q e : Int} {x6 : Option sp_V} {g : sp_G} {Q : sp_P} (hR : mRep g Z) (hV : zV B Z) (hwh : 0 ≤ wh ∧ wh < 4) (eq : g 52 7 = q) (hq : 0 ≤ q ∧ q ≤ (zl Z)) (ee : e = rn 48 57 (zx Z) (zl Z) q) (hb : (0 ≤ lo ∧ lo ≤ 99) ∧ (0 ≤ hi ∧ hi ≤ 99))
    (hQ1 : ((q < e ∧ e ≤ q + 2) ∧ lo ≤ dv (zx Z) q (e - q) ∧ dv (zx Z) q (e - q) ≤ hi) → ∀ g2 : sp_G, atM g g2 → (∀ j, j ≠ wh → g2 58 j = g 58 j) → g2 58 wh = dv (zx Z) q (e - q) → g2 52 7 = e → Q (some (v_i 1)) g2) (hQ0 : ¬ ((q < e ∧ e ≤ q + 2) ∧ lo ≤ dv (zx Z) q (e - q) ∧ dv (zx Z) q (e - q) ≤ hi) → ∀ g2 : sp_G, atM g g2 → (∀ j, j ≠ wh → g2 58 j = g 58 j) → g2 52 7 = q → Q (some (v_i 0)) g2) :
    ∀ (n : Nat) (k v : Int), q ≤ k → k + n = q + 3 → k ≤ e → v = dv (zx Z) q (k - q) → (0 ≤ v ∧ v ≤ 999 ∧ (k < q + 3 → v ≤ 99) ∧ (k < q + 2 → v ≤ 9) ∧ (k < q + 1 → v = 0)) → sp_AW mX6_isNumber (d + 2) 13 [some (v_r 52), some (v_i wh), some (v_i lo), some (v_i hi), some (v_i k), some (v_i v), x6] [] g Q := by
  have hx := zV_x hV
  have hr := rn_p (lo := 48) (hi := 57) (x := (zx Z)) hq.2
  rw [← ee] at hr
  obtain ⟨hr1, hr2, hr3⟩ := hr
  have ht := hR.tx
  intro n
  induction n with
  | zero =>
    intro k v h0 hn hke hv hvb
    have bb := bA_b hV (k := k) (by omega)
    refine aw_aload_n dX6_isNumber_13 rfl ?_
    refine aw_iload dX6_isNumber_14 rfl ?_
    refine aw_V1 dX6_isNumber_16 okX6_byteAt lkX6_121 rfl rfl rfl ?_
    refine tX6_byteAt _ hR hV (by omega) ?_
    refine aw_bipush dX6_isNumber_19 (by decide) ?_
    refine aw_bipush dX6_isNumber_21 (by decide) ?_
    refine aw_S3 dX6_isNumber_23 okX6_in lkX6_53 rfl ?_
    refine tX6_in _ (by omega) ?_
    refine aw_ifeq_b (tg := 64) dX6_isNumber_26 (by decide) (fun h26 => ?_) (fun h26 => ?_)
    · have h26 := fun k2 => h26 ((bA_i (by omega)).2 k2)
      have ke : k = e := by
        by_cases c : k < e
        · exact absurd ⟨by omega, hr2 k h0 c⟩ h26
        · omega
      exact lX6_isNum2 _ hR hV hwh eq (by omega) (Or.inr ⟨by omega, by omega⟩) hv ⟨hvb.1, hvb.2.1⟩ hb hQ1 hQ0
    · refine aw_iload dX6_isNumber_29 rfl ?_
      refine aw_aload_n dX6_isNumber_31 rfl ?_
      refine aw_getI (kz := 7) dX6_isNumber_32 flX6_118 rfl rfl rfl ?_
      refine aw_isub dX6_isNumber_35 ?_
      refine aw_iconst dX6_isNumber_36 ?_
      rw [eq]
      refine aw_icmp_ge (tg := 64) dX6_isNumber_37 (by decide) (by omega) (fun h37 => ?_) (fun h37 => absurd h37 (by omega))
      exact lX6_isNum2 _ hR hV hwh eq (by omega) (Or.inr ⟨by omega, by omega⟩) hv ⟨hvb.1, hvb.2.1⟩ hb hQ1 hQ0
  | succ n ih =>
    intro k v h0 hn hke hv hvb
    have bb := bA_b hV (k := k) (by omega)
    refine aw_aload_n dX6_isNumber_13 rfl ?_
    refine aw_iload dX6_isNumber_14 rfl ?_
    refine aw_V1 dX6_isNumber_16 okX6_byteAt lkX6_121 rfl rfl rfl ?_
    refine tX6_byteAt _ hR hV (by omega) ?_
    refine aw_bipush dX6_isNumber_19 (by decide) ?_
    refine aw_bipush dX6_isNumber_21 (by decide) ?_
    refine aw_S3 dX6_isNumber_23 okX6_in lkX6_53 rfl ?_
    refine tX6_in _ (by omega) ?_
    refine aw_ifeq_b (tg := 64) dX6_isNumber_26 (by decide) (fun h26 => ?_) (fun h26 => ?_)
    · have h26 := fun k2 => h26 ((bA_i (by omega)).2 k2)
      have ke : k = e := by
        by_cases c : k < e
        · exact absurd ⟨by omega, hr2 k h0 c⟩ h26
        · omega
      exact lX6_isNum2 _ hR hV hwh eq (by omega) (Or.inl ⟨ke, by omega⟩) hv ⟨hvb.1, hvb.2.1⟩ hb hQ1 hQ0
    · have h26 := (bA_i (by omega)).1 h26
      have hke2 : k < e := by
        by_cases c : k < e
        · exact c
        · exact absurd (by rw [show e = k by omega]; exact h26) hr3
      refine aw_iload dX6_isNumber_29 rfl ?_
      refine aw_aload_n dX6_isNumber_31 rfl ?_
      refine aw_getI (kz := 7) dX6_isNumber_32 flX6_118 rfl rfl rfl ?_
      refine aw_isub dX6_isNumber_35 ?_
      refine aw_iconst dX6_isNumber_36 ?_
      rw [eq]
      refine aw_icmp_ge (tg := 64) dX6_isNumber_37 (by decide) (by omega) (fun h37 => absurd h37 (by omega)) (fun h37 => ?_)
      refine aw_bipush dX6_isNumber_40 (by decide) ?_
      refine aw_iload dX6_isNumber_42 rfl ?_
      refine aw_imul dX6_isNumber_44 ?_
      refine aw_aload_n dX6_isNumber_45 rfl ?_
      refine aw_getR dX6_isNumber_46 flX6_22 rfl rfl ?_
      refine aw_iload dX6_isNumber_49 rfl ?_
      refine aw_iald dX6_isNumber_51 rfl (by omega) ?_
      rw [ht.2.1 k k (by omega) h26.1 (by omega)]
      refine aw_iadd dX6_isNumber_52 ?_
      refine aw_bipush dX6_isNumber_53 (by decide) ?_
      refine aw_isub dX6_isNumber_55 ?_
      refine aw_istore (L2 := [_, _, _, _, _, _, _]) dX6_isNumber_56 (by decide) rfl rfl ?_
      refine aw_iinc (L2 := [_, _, _, _, _, _, _]) dX6_isNumber_58 rfl (by decide) rfl rfl ?_
      refine aw_goto (tg := 13) dX6_isNumber_61 (by decide) ?_
      exact ih (k + 1) _ (by omega) (by omega) (by omega) (by rw [show k + 1 - q = (k - q) + 1 by omega, dv_s (by omega), ← hv, show q + (k - q) = k by omega]) (by omega)
theorem zX6_isNumber (d : Nat) {B : Int} {Z : zZ} {wh lo hi p : Int} {g : sp_G} {Q : sp_P} (hR : mRep g Z) (hV : zV B Z) (hwh : 0 ≤ wh ∧ wh < 4) (ep : g 52 7 = p) (hp : 0 ≤ p ∧ p ≤ (zl Z)) (hb : (0 ≤ lo ∧ lo ≤ 99) ∧ (0 ≤ hi ∧ hi ≤ 99))
    (hQ1 : nK (zx Z) (zl Z) p lo hi → ∀ g2 : sp_G, atM g g2 → (∀ j, j ≠ wh → g2 58 j = g 58 j) → g2 58 wh = nV (zx Z) (zl Z) p → g2 52 7 = nE (zx Z) (zl Z) p → Q (some (v_i 1)) g2) (hQ0 : ¬ nK (zx Z) (zl Z) p lo hi → ∀ g2 : sp_G, atM g g2 → (∀ j, j ≠ wh → g2 58 j = g 58 j) → g2 52 7 = sk (zx Z) (zl Z) p → Q (some (v_i 0)) g2) : sp_Met (d + 2) mX6_isNumber [v_r 52, v_i wh, v_i lo, v_i hi] g Q := by
  have hs := (sk_b (x := (zx Z)) hp.2).1
  refine sp_of (L := [_, _, _, _, _, _, _]) (by decide) (Nat.le_of_ble_eq_true rfl) rfl rfl ?_
  refine aw_aload_n dX6_isNumber_0 rfl ?_
  refine aw_V0 dX6_isNumber_1 okX6_skips lkX6_124 rfl rfl rfl ?_
  refine zX6_skips _ hR hV ep (by omega) (fun g1 f1 n1 e1 => ?_)
  refine aw_aload_n dX6_isNumber_4 rfl ?_
  
  refine aw_getI (kz := 7) dX6_isNumber_5 flX6_118 rfl rfl rfl ?_
  refine aw_istore (L2 := [_, _, _, _, _, _, _]) dX6_isNumber_8 (by decide) rfl rfl ?_
  refine aw_iconst dX6_isNumber_10 ?_
  refine aw_istore (L2 := [_, _, _, _, _, _, _]) dX6_isNumber_11 (by decide) rfl rfl ?_
  rw [e1]
  have hr := rn_p (lo := 48) (hi := 57) (x := (zx Z)) hs.2
  exact lX6_isNum1 _ (hR.sc f1.sc) hV hwh e1 (by omega) rfl hb (fun k g2 a b c e => hQ1 k g2 (f1.tr a) (fun j hj => (b j hj).trans (n1 j)) c e) (fun k g2 a b e => hQ0 k g2 (f1.tr a) (fun j hj => (b j hj).trans (n1 j)) e) 3 _ _ (by omega) (by omega) (by omega) (by rw [Int.sub_self]; rfl) (by omega)
