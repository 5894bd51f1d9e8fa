theorem lX3_keyOf (d : Nat) {di : Int → Int} {lay a : Int} {g : sp_G} {Q : sp_P} (ha : 0 ≤ a ∧ a < 24) (hv : ∀ i, 0 ≤ i → i < 96 → 0 ≤ di i ∧ di i ≤ 5) (hb : ∀ l, 0 ≤ l → l < 4 → bt lay l = 0 ∨ bt lay l = 1) (hdi : rH g 3 0 96 di) (hQ : Q (some (v_i (ky lay di a))) g) :
    ∀ (n : Nat) (l z : Int), 0 ≤ l → l + n = 4 → z = kyI lay di a l → sp_AW mX3_keyOf (d + 1) 5 [some (v_r 1), some (v_i lay), some (v_i a), some (v_i z), some (v_i l)] [] g Q := by
  intro n
  induction n with
  | zero =>
    intro l z h0 hn ez
    have el : l = 4 := by omega
    subst el
    refine aw_iload dX3_keyOf_5 rfl ?_
    refine aw_iconst dX3_keyOf_7 ?_
    refine aw_icmp_ge (tg := 40) dX3_keyOf_8 (by decide) (by omega) (fun h8 => ?_) (fun h8 => absurd h8 (by omega))
    refine aw_iload_n dX3_keyOf_40 rfl ?_
    refine aw_iret dX3_keyOf_41 rfl ?_
    rw [ez]
    exact hQ
  | succ n ih =>
    intro l z h0 hn ez
    have hbl := hb l h0 (by omega)
    unfold bt at hbl
    have hs := kyI_s (on := lay) (di := di) (a := a) h0
    unfold bt at hs
    refine aw_iload dX3_keyOf_5 rfl ?_
    refine aw_iconst dX3_keyOf_7 ?_
    refine aw_icmp_ge (tg := 40) dX3_keyOf_8 (by decide) (by omega) (fun h8 => absurd h8 (by omega)) (fun h8 => ?_)
    refine aw_iload_n dX3_keyOf_11 rfl ?_
    refine aw_iload dX3_keyOf_12 rfl ?_
    refine aw_ishr dX3_keyOf_14 ?_
    refine aw_iconst dX3_keyOf_15 ?_
    refine aw_iand dX3_keyOf_16 ?_
    refine aw_iconst dX3_keyOf_17 ?_
    refine aw_icmp_ne (tg := 34) dX3_keyOf_18 (by decide) (by omega) (fun h18 => ?_) (fun h18 => ?_)
    · refine aw_iinc (L2 := [_, _, _, _, _]) dX3_keyOf_34 rfl (by decide) rfl rfl ?_
      refine aw_goto (tg := 5) dX3_keyOf_37 (by decide) ?_
      refine ih (l + 1) _ (by omega) (by omega) ?_
      first
        | (rw [if_neg h18] at hs; rw [hs, ez])
        | (rw [if_pos h18] at hs; rw [hs, ez])
    · refine aw_iload_n dX3_keyOf_21 rfl ?_
      refine aw_bipush dX3_keyOf_22 (by decide) ?_
      refine aw_imul dX3_keyOf_24 ?_
      refine aw_aload_n dX3_keyOf_25 rfl ?_
      refine aw_iload dX3_keyOf_26 rfl ?_
      refine aw_iload_n dX3_keyOf_28 rfl ?_
      refine aw_V2 dX3_keyOf_29 okX4_districtOf lkX3_40 rfl rfl rfl ?_
      refine tX4_districtOf_d d hdi (by omega) ?_
      refine aw_iadd dX3_keyOf_32 ?_
      refine aw_istore_n (L2 := [_, _, _, _, _]) dX3_keyOf_33 (by decide) rfl rfl ?_
      refine aw_iinc (L2 := [_, _, _, _, _]) dX3_keyOf_34 rfl (by decide) rfl rfl ?_
      refine aw_goto (tg := 5) dX3_keyOf_37 (by decide) ?_
      refine ih (l + 1) _ (by omega) (by omega) ?_
      first
        | (rw [if_neg h18] at hs; rw [hs, ez])
        | (rw [if_pos h18] at hs; rw [hs, ez])
theorem tX3_keyOf (d : Nat) {di : Int → Int} {lay a : Int} {g : sp_G} {Q : sp_P} (ha : 0 ≤ a ∧ a < 24) (hv : ∀ i, 0 ≤ i → i < 96 → 0 ≤ di i ∧ di i ≤ 5) (hb : ∀ l, 0 ≤ l → l < 4 → bt lay l = 0 ∨ bt lay l = 1) (hdi : rH g 3 0 96 di) (hQ : Q (some (v_i (ky lay di a))) g) : sp_Met (d + 1) mX3_keyOf [v_r 1, v_i lay, v_i a] g Q := by
  refine sp_of (L := [_, _, _, _, _]) (by decide) (Nat.le_of_ble_eq_true rfl) rfl rfl ?_
  refine aw_iconst dX3_keyOf_0 ?_
  refine aw_istore_n (L2 := [_, _, _, _, _]) dX3_keyOf_1 (by decide) rfl rfl ?_
  refine aw_iconst dX3_keyOf_2 ?_
  refine aw_istore (L2 := [_, _, _, _, _]) dX3_keyOf_3 (by decide) rfl rfl ?_
  exact lX3_keyOf d ha hv hb hdi hQ 4 0 0 (by omega) (by omega) rfl
theorem lX3_swk (d : Nat) {kk fs : Int → Int} {x c m : Int} {g : sp_G} {Q : sp_P} (hc : 0 ≤ c ∧ c ≤ 24) (hm : m ≤ 24) (hx : 0 ≤ x ∧ x ≤ 1295) (hcc : g 39 5 = c) (hkk : rH g 40 0 m kk) (hfs : rH g 42 0 c fs) (hf : ∀ s, 0 ≤ s → s < c → 0 ≤ fs s ∧ fs s < m) (hkb : ∀ b, 0 ≤ b → b < m → 0 ≤ kk b ∧ kk b ≤ 1295) (hQ : Q (some (v_i (fm kk fs x c))) g) :
    ∀ (n : Nat) (s : Int), 0 ≤ s → s + n = c → (∀ t, 0 ≤ t → t < s → kk (fs t) ≠ x) → sp_AW mX3_styleWithKey d 2 [some (v_r 39), some (v_i x), some (v_i s)] [] g Q := by
  intro n
  induction n with
  | zero =>
    intro s h0 hn hno
    have es : s = c := by omega
    subst es
    refine aw_iload_n dX3_styleWithKey_2 rfl ?_
    refine aw_aload_n dX3_styleWithKey_3 rfl ?_
    refine aw_getI (kz := 5) dX3_styleWithKey_4 flX3_28 rfl rfl rfl ?_
    refine aw_icmp_ge (tg := 33) dX3_styleWithKey_7 (by decide) (by rw [hcc]; omega) (fun h7 => ?_) (fun h7 => absurd h7 (by rw [hcc]; omega))
    refine aw_aload_n dX3_styleWithKey_33 rfl ?_
    refine aw_getI (kz := 5) dX3_styleWithKey_34 flX3_28 rfl rfl rfl ?_
    refine aw_iret dX3_styleWithKey_37 rfl ?_
    rw [hcc]
    rwa [fm_eq hc.1 h0 (by omega) (fun h => absurd h (by omega)) hno] at hQ
  | succ n ih =>
    intro s h0 hn hno
    have e1 := hfs s s h0 (by omega) (by omega)
    have b1 := hf s h0 (by omega)
    have e2 := hkk (fs s) (fs s) b1.1 b1.2 (by omega)
    have b2 := hkb (fs s) b1.1 b1.2
    refine aw_iload_n dX3_styleWithKey_2 rfl ?_
    refine aw_aload_n dX3_styleWithKey_3 rfl ?_
    refine aw_getI (kz := 5) dX3_styleWithKey_4 flX3_28 rfl rfl rfl ?_
    refine aw_icmp_ge (tg := 33) dX3_styleWithKey_7 (by decide) (by rw [hcc]; omega) (fun h7 => absurd h7 (by rw [hcc]; omega)) (fun h7 => ?_)
    refine aw_aload_n dX3_styleWithKey_10 rfl ?_
    refine aw_getR dX3_styleWithKey_11 flX3_9 rfl rfl ?_
    refine aw_aload_n dX3_styleWithKey_14 rfl ?_
    refine aw_getR dX3_styleWithKey_15 flX3_18 rfl rfl ?_
    refine aw_iload_n dX3_styleWithKey_18 rfl ?_
    refine aw_iald dX3_styleWithKey_19 rfl (by omega) ?_
    rw [e1]
    refine aw_iald dX3_styleWithKey_20 rfl (by omega) ?_
    rw [e2]
    refine aw_iload_n dX3_styleWithKey_21 rfl ?_
    refine aw_icmp_ne (tg := 27) dX3_styleWithKey_22 (by decide) (by omega) (fun h22 => ?_) (fun h22 => ?_)
    · refine aw_iinc (L2 := [_, _, _]) dX3_styleWithKey_27 rfl (by decide) rfl rfl ?_
      refine aw_goto (tg := 2) dX3_styleWithKey_30 (by decide) ?_
      refine ih (s + 1) (by omega) (by omega) (fun t h1 h2 => ?_)
      by_cases h3 : t = s
      · rw [h3]; exact h22
      · exact hno t h1 (by omega)
    · refine aw_iload_n dX3_styleWithKey_25 rfl ?_
      refine aw_iret dX3_styleWithKey_26 rfl ?_
      rwa [fm_eq hc.1 h0 (by omega) (fun h => h22) hno] at hQ
theorem tX3_styleWithKey (d : Nat) {kk fs : Int → Int} {x c m : Int} {g : sp_G} {Q : sp_P} (hc : 0 ≤ c ∧ c ≤ 24) (hm : m ≤ 24) (hx : 0 ≤ x ∧ x ≤ 1295) (hcc : g 39 5 = c) (hkk : rH g 40 0 m kk) (hfs : rH g 42 0 c fs) (hf : ∀ s, 0 ≤ s → s < c → 0 ≤ fs s ∧ fs s < m) (hkb : ∀ b, 0 ≤ b → b < m → 0 ≤ kk b ∧ kk b ≤ 1295) (hQ : Q (some (v_i (fm kk fs x c))) g) : sp_Met d mX3_styleWithKey [v_r 39, v_i x] g Q := by
  refine sp_of (L := [_, _, _]) (by decide) (Nat.le_of_ble_eq_true rfl) rfl rfl ?_
  refine aw_iconst dX3_styleWithKey_0 ?_
  refine aw_istore_n (L2 := [_, _, _]) dX3_styleWithKey_1 (by decide) rfl rfl ?_
  exact lX3_swk d hc hm hx hcc hkk hfs hf hkb hQ c.toNat 0 (by omega) (by omega) (fun t h1 h2 => by omega)
/-- what sorting leaves -/
def stH (g : sp_G) (kk : Int → Int) : Prop := g 39 5 = sc kk 24 ∧ rH g 41 0 24 (sy kk 24) ∧ rH g 42 0 (sc kk 24) (sf kk 24)
theorem lX3_sort (d : Nat) {di : Int → Int} {lay : Int} {g0 : sp_G} {Q : sp_P} (hv : ∀ i, 0 ≤ i → i < 96 → 0 ≤ di i ∧ di i ≤ 5) (hb : ∀ l, 0 ≤ l → l < 4 → bt lay l = 0 ∨ bt lay l = 1) (hdi : rH g0 3 0 96 di)
    (hQ : ∀ g : sp_G, sp_fr [39, 40, 41, 42] g0 g → stH g (ky lay di) → Q none g) :
    ∀ (n : Nat) (a : Int) (sx : Option sp_V) (g : sp_G), 0 ≤ a → a + n = 24 → sp_fr [39, 40, 41, 42] g0 g → g 39 5 = sc (ky lay di) a → rH g 40 0 a (ky lay di) → rH g 41 0 a (sy (ky lay di) a) → rH g 42 0 (sc (ky lay di) a) (sf (ky lay di) a) → sp_AW mX3_sortBlocks (d + 2) 7 [some (v_r 39), some (v_r 1), some (v_i lay), some (v_i a), sx] [] g Q := by
  intro n
  induction n with
  | zero =>
    intro a sx g h0 hn hf hc hk hy hs
    have ea : a = 24 := by omega
    subst ea
    refine aw_iload_n dX3_sortBlocks_7 rfl ?_
    refine aw_bipush dX3_sortBlocks_8 (by decide) ?_
    refine aw_icmp_ge (tg := 78) dX3_sortBlocks_10 (by decide) (by omega) (fun h10 => ?_) (fun h10 => absurd h10 (by omega))
    refine aw_vret dX3_sortBlocks_78 rfl ?_
    exact hQ g hf ⟨hc, hy, hs⟩
  | succ n ih =>
    intro a sx g h0 hn hf hc hk hy hs
    generalize hkk : ky lay di = kk at *
    have hkb : ∀ b, 0 ≤ b → b < 24 → 0 ≤ kk b ∧ kk b ≤ 1295 := fun b h1 h2 => by
      have := ky_b (on := lay) (di := di) (a := b) (l := 4) ⟨h1, h2⟩ hv (by omega)
      rw [← hkk]
      exact ⟨this.1, this.2.1⟩
    obtain ⟨⟨p1, p2, p3⟩, p4, p5, p6⟩ := st_p (kk := kk) h0
    have hka := hkb a h0 (by omega)
    obtain ⟨q0, q1, q2, q3⟩ := fm_p (kk := kk) (fs := sf kk a) (x := kk a) p1
    have hk2 : rH (sp_up g 40 a (kk a)) 40 0 (a + 1) kk := fun i j h1 h2 h3 => by
      by_cases hi : i = a
      · rw [h3, hi, show (0 : Int) + a = a by omega, sp_up_s]
      · rw [sp_up_i _ _ _ _ (by omega), hk i j h1 (by omega) h3]
    have hc2 : sp_up g 40 a (kk a) 39 5 = sc kk a := by rw [sp_up_o _ _ _ _ (by decide)]; exact hc
    refine aw_iload_n dX3_sortBlocks_7 rfl ?_
    refine aw_bipush dX3_sortBlocks_8 (by decide) ?_
    refine aw_icmp_ge (tg := 78) dX3_sortBlocks_10 (by decide) (by omega) (fun h10 => absurd h10 (by omega)) (fun h10 => ?_)
    refine aw_aload_n dX3_sortBlocks_13 rfl ?_
    refine aw_getR dX3_sortBlocks_14 flX3_9 rfl rfl ?_
    refine aw_iload_n dX3_sortBlocks_17 rfl ?_
    refine aw_aload_n dX3_sortBlocks_18 rfl ?_
    refine aw_iload_n dX3_sortBlocks_19 rfl ?_
    refine aw_iload_n dX3_sortBlocks_20 rfl ?_
    refine aw_S3 dX3_sortBlocks_21 okX3_keyOf lkX3_32 rfl ?_
    refine tX3_keyOf d (by omega) hv hb (hdi.fr hf (by decide)) ?_
    rw [hkk]
    refine aw_iast dX3_sortBlocks_24 rfl (by omega) ?_
    refine aw_aload_n dX3_sortBlocks_25 rfl ?_
    refine aw_aload_n dX3_sortBlocks_26 rfl ?_
    refine aw_getR dX3_sortBlocks_27 flX3_9 rfl rfl ?_
    refine aw_iload_n dX3_sortBlocks_30 rfl ?_
    
    refine aw_iald dX3_sortBlocks_31 rfl (by omega) ?_
    rw [sp_up_s]
    refine aw_V1 dX3_sortBlocks_32 okX3_styleWithKey lkX3_36 rfl rfl rfl ?_
    refine tX3_styleWithKey (d + 1) (kk := kk) (fs := sf kk a) (c := sc kk a) (m := a + 1) (by omega) (by omega) hka hc2 hk2 (hs.ne (by decide)) (fun s h1 h2 => by have := p4 s h1 h2; omega) (fun b h1 h2 => hkb b h1 (by omega)) ?_
    refine aw_istore (L2 := [_, _, _, _, _]) dX3_sortBlocks_35 (by decide) rfl rfl ?_
    refine aw_iload dX3_sortBlocks_37 rfl ?_
    refine aw_aload_n dX3_sortBlocks_39 rfl ?_
    refine aw_getI (kz := 5) dX3_sortBlocks_40 flX3_28 rfl rfl rfl ?_
    refine aw_icmp_ne (tg := 64) dX3_sortBlocks_43 (by decide) (by rw [hc2]; omega) (fun h43 => ?_) (fun h43 => ?_)
    · refine aw_aload_n dX3_sortBlocks_64 rfl ?_
      refine aw_getR dX3_sortBlocks_65 flX3_15 rfl rfl ?_
      refine aw_iload_n dX3_sortBlocks_68 rfl ?_
      refine aw_iload dX3_sortBlocks_69 rfl ?_
      refine aw_iast dX3_sortBlocks_71 rfl (by omega) ?_
      refine aw_iinc (L2 := [_, _, _, _, _]) dX3_sortBlocks_72 rfl (by decide) rfl rfl ?_
      refine aw_goto (tg := 7) dX3_sortBlocks_75 (by decide) ?_
      rw [hc2] at h43
      obtain ⟨e1, e2, e3⟩ := st_old h0 h43
      refine ih (a + 1) _ _ (by omega) (by omega) ((hf.up (by decide)).up (by decide)) ?_ ?_ ?_ ?_
      · rw [sp_up_o _ _ _ _ (by decide), hc2, e1]
      · exact hk2.ne (by decide)
      · rw [e3]
        intro i j h1 h2 h3
        by_cases hi : i = a
        · rw [h3, hi, show (0 : Int) + a = a by omega, sp_up_s, up1_s]
        · rw [sp_up_i _ _ _ _ (by omega), up1_n _ _ hi, sp_up_o _ _ _ _ (by decide)]
          exact hy i j h1 (by omega) h3
      · rw [e1, e2]
        exact (hs.ne (by decide)).ne (by decide)
    · rw [hc2] at h43
      refine aw_aload_n dX3_sortBlocks_46 rfl ?_
      refine aw_getR dX3_sortBlocks_47 flX3_18 rfl rfl ?_
      refine aw_iload dX3_sortBlocks_50 rfl ?_
      refine aw_iload_n dX3_sortBlocks_52 rfl ?_
      refine aw_iast dX3_sortBlocks_53 rfl (by omega) ?_
      refine aw_aload_n dX3_sortBlocks_54 rfl ?_
      refine aw_dup dX3_sortBlocks_55 rfl ?_
      refine aw_getI (kz := 5) dX3_sortBlocks_56 flX3_28 rfl rfl rfl ?_
      refine aw_iconst dX3_sortBlocks_59 ?_
      refine aw_iadd dX3_sortBlocks_60 ?_
      refine aw_putI (kz := 5) dX3_sortBlocks_61 flX3_28 fi_3_5 rfl rfl rfl  ?_
      refine aw_aload_n dX3_sortBlocks_64 rfl ?_
      refine aw_getR dX3_sortBlocks_65 flX3_15 rfl rfl ?_
      refine aw_iload_n dX3_sortBlocks_68 rfl ?_
      refine aw_iload dX3_sortBlocks_69 rfl ?_
      refine aw_iast dX3_sortBlocks_71 rfl (by omega) ?_
      refine aw_iinc (L2 := [_, _, _, _, _]) dX3_sortBlocks_72 rfl (by decide) rfl rfl ?_
      refine aw_goto (tg := 7) dX3_sortBlocks_75 (by decide) ?_
      obtain ⟨e1, e2, e3⟩ := st_new h0 h43
      refine ih (a + 1) _ _ (by omega) (by omega) ((((hf.up (by decide)).up (by decide)).up (by decide)).up (by decide)) ?_ ?_ ?_ ?_
      · rw [sp_up_o _ _ _ _ (by decide), sp_up_s, sp_up_o _ _ _ _ (by decide), hc2, e1]
      · exact ((hk2.ne (by decide)).ne (by decide)).ne (by decide)
      · rw [e3, h43]
        refine rH.c (f := up1 (sy kk a) a (sc kk a)) (fun i j h1 h2 h3 => ?_) (fun _ _ _ => rfl)
        by_cases hi : i = a
        · rw [h3, hi, show (0 : Int) + a = a by omega, sp_up_s, up1_s]
        · rw [sp_up_i _ _ _ _ (by omega), up1_n _ _ hi, sp_up_o _ _ _ _ (by decide), sp_up_o _ _ _ _ (by decide), sp_up_o _ _ _ _ (by decide)]
          exact hy i j h1 (by omega) h3
      · rw [e1, e2, h43]
        intro i j h1 h2 h3
        rw [sp_up_o _ _ _ _ (by decide), sp_up_o _ _ _ _ (by decide)]
        by_cases hi : i = sc kk a
        · rw [h3, hi, show (0 : Int) + sc kk a = sc kk a by omega, sp_up_s, up1_s]
        · rw [sp_up_i _ _ _ _ (by omega), up1_n _ _ hi, sp_up_o _ _ _ _ (by decide)]
          exact hs i j h1 (by omega) h3
theorem tX3_sortBlocks (d : Nat) {di : Int → Int} {lay : Int} {g : sp_G} {Q : sp_P} (hv : ∀ i, 0 ≤ i → i < 96 → 0 ≤ di i ∧ di i ≤ 5) (hb : ∀ l, 0 ≤ l → l < 4 → bt lay l = 0 ∨ bt lay l = 1) (hdi : rH g 3 0 96 di) (hQ : ∀ g2 : sp_G, sp_fr [39, 40, 41, 42] g g2 → stH g2 (ky lay di) → Q none g2) : sp_Met (d + 2) mX3_sortBlocks [v_r 39, v_r 1, v_i lay] g Q := by
  refine sp_of (L := [_, _, _, _, _]) (by decide) (Nat.le_of_ble_eq_true rfl) rfl rfl ?_
  refine aw_aload_n dX3_sortBlocks_0 rfl ?_
  refine aw_iconst dX3_sortBlocks_1 ?_
  refine aw_putI (kz := 5) dX3_sortBlocks_2 flX3_28 fi_3_5 rfl rfl rfl  ?_
  refine aw_iconst dX3_sortBlocks_5 ?_
  refine aw_istore_n (L2 := [_, _, _, _, _]) dX3_sortBlocks_6 (by decide) rfl rfl ?_
  refine lX3_sort d hv hb hdi hQ 24 0 _ _ (by omega) (by omega) (sp_fr.rf.up (by decide)) (sp_up_s _ _ _ _) (fun i j h1 h2 => by omega) (fun i j h1 h2 => by omega) (fun i j h1 h2 => ?_)
  exact absurd h2 (by have : sc (ky lay di) 0 = 0 := rfl; omega)
theorem lX3_blocksOf (d : Nat) {y : Int → Int} {s : Int} {g : sp_G} {Q : sp_P} (hy : rH g 41 0 24 y) (hyb : ∀ a, 0 ≤ a → a < 24 → 0 ≤ y a ∧ y a < 24) (hs : 0 ≤ s ∧ s < 24) (hQ : Q (some (v_i (sI (bF y s) 24))) g) :
    ∀ (n : Nat) (a many : Int), 0 ≤ a → a + n = 24 → many = sI (bF y s) a → sp_AW mX3_blocksOf d 4 [some (v_r 39), some (v_i s), some (v_i many), some (v_i a)] [] g Q := by
  intro n
  induction n with
  | zero =>
    intro a many h0 hn em
    have ea : a = 24 := by omega
    subst ea
    refine aw_iload_n dX3_blocksOf_4 rfl ?_
    refine aw_bipush dX3_blocksOf_5 (by decide) ?_
    refine aw_icmp_ge (tg := 29) dX3_blocksOf_7 (by decide) (by omega) (fun h7 => ?_) (fun h7 => absurd h7 (by omega))
    refine aw_iload_n dX3_blocksOf_29 rfl ?_
    refine aw_iret dX3_blocksOf_30 rfl ?_
    rw [em]
    exact hQ
  | succ n ih =>
    intro a many h0 hn em
    have e1 := hy a a h0 (by omega) (by omega)
    have b1 := hyb a h0 (by omega)
    refine aw_iload_n dX3_blocksOf_4 rfl ?_
    refine aw_bipush dX3_blocksOf_5 (by decide) ?_
    refine aw_icmp_ge (tg := 29) dX3_blocksOf_7 (by decide) (by omega) (fun h7 => absurd h7 (by omega)) (fun h7 => ?_)
    refine aw_aload_n dX3_blocksOf_10 rfl ?_
    refine aw_getR dX3_blocksOf_11 flX3_15 rfl rfl ?_
    refine aw_iload_n dX3_blocksOf_14 rfl ?_
    refine aw_iald dX3_blocksOf_15 rfl (by omega) ?_
    rw [e1]
    refine aw_iload_n dX3_blocksOf_16 rfl ?_
    refine aw_icmp_ne (tg := 23) dX3_blocksOf_17 (by decide) (by omega) (fun h17 => ?_) (fun h17 => ?_)
    · refine aw_iinc (L2 := [_, _, _, _]) dX3_blocksOf_23 rfl (by decide) rfl rfl ?_
      refine aw_goto (tg := 4) dX3_blocksOf_26 (by decide) ?_
      refine ih (a + 1) _ (by omega) (by omega) ?_
      rw [sI_s _ h0, ← em]
      unfold bF
      first
        | (rw [if_neg h17]; omega)
        | (rw [if_pos h17])
    · refine aw_iinc (L2 := [_, _, _, _]) dX3_blocksOf_20 rfl (by decide) rfl rfl ?_
      refine aw_iinc (L2 := [_, _, _, _]) dX3_blocksOf_23 rfl (by decide) rfl rfl ?_
      refine aw_goto (tg := 4) dX3_blocksOf_26 (by decide) ?_
      refine ih (a + 1) _ (by omega) (by omega) ?_
      rw [sI_s _ h0, ← em]
      unfold bF
      first
        | (rw [if_neg h17]; omega)
        | (rw [if_pos h17])
theorem tX3_blocksOf (d : Nat) {y : Int → Int} {s : Int} {g : sp_G} {Q : sp_P} (hy : rH g 41 0 24 y) (hyb : ∀ a, 0 ≤ a → a < 24 → 0 ≤ y a ∧ y a < 24) (hs : 0 ≤ s ∧ s < 24) (hQ : Q (some (v_i (sI (bF y s) 24))) g) : sp_Met d mX3_blocksOf [v_r 39, v_i s] g Q := by
  refine sp_of (L := [_, _, _, _]) (by decide) (Nat.le_of_ble_eq_true rfl) rfl rfl ?_
  refine aw_iconst dX3_blocksOf_0 ?_
  refine aw_istore_n (L2 := [_, _, _, _]) dX3_blocksOf_1 (by decide) rfl rfl ?_
  refine aw_iconst dX3_blocksOf_2 ?_
  refine aw_istore_n (L2 := [_, _, _, _]) dX3_blocksOf_3 (by decide) rfl rfl ?_
  exact lX3_blocksOf d hy hyb hs hQ 24 0 0 (by omega) (by omega) rfl
theorem lX3_votersOf (d : Nat) {y pe : Int → Int} {s : Int} {g : sp_G} {Q : sp_P} (hy : rH g 41 0 24 y) (hyb : ∀ a, 0 ≤ a → a < 24 → 0 ≤ y a ∧ y a < 24) (hs : 0 ≤ s ∧ s < 24) (hpe : rH g 2 0 24 pe) (hQ : Q (some (v_i (vo y pe s))) g) :
    ∀ (n : Nat) (a many : Int), 0 ≤ a → a + n = 24 → many = sI (vF y pe s) a → sp_AW mX3_votersOf d 5 [some (v_r 39), some (v_i s), some (v_r 1), some (v_i many), some (v_i a)] [] g Q := by
  intro n
  induction n with
  | zero =>
    intro a many h0 hn em
    have ea : a = 24 := by omega
    subst ea
    refine aw_iload dX3_votersOf_5 rfl ?_
    refine aw_bipush dX3_votersOf_7 (by decide) ?_
    refine aw_icmp_ge (tg := 39) dX3_votersOf_9 (by decide) (by omega) (fun h9 => ?_) (fun h9 => absurd h9 (by omega))
    refine aw_iload_n dX3_votersOf_39 rfl ?_
    refine aw_iret dX3_votersOf_40 rfl ?_
    rw [em]
    exact hQ
  | succ n ih =>
    intro a many h0 hn em
    have e1 := hy a a h0 (by omega) (by omega)
    have b1 := hyb a h0 (by omega)
    have e2 := hpe a a h0 (by omega) (by omega)
    refine aw_iload dX3_votersOf_5 rfl ?_
    refine aw_bipush dX3_votersOf_7 (by decide) ?_
    refine aw_icmp_ge (tg := 39) dX3_votersOf_9 (by decide) (by omega) (fun h9 => absurd h9 (by omega)) (fun h9 => ?_)
    refine aw_aload_n dX3_votersOf_12 rfl ?_
    refine aw_getR dX3_votersOf_13 flX3_15 rfl rfl ?_
    refine aw_iload dX3_votersOf_16 rfl ?_
    refine aw_iald dX3_votersOf_18 rfl (by omega) ?_
    rw [e1]
    refine aw_iload_n dX3_votersOf_19 rfl ?_
    refine aw_icmp_ne (tg := 33) dX3_votersOf_20 (by decide) (by omega) (fun h20 => ?_) (fun h20 => ?_)
    · refine aw_iinc (L2 := [_, _, _, _, _]) dX3_votersOf_33 rfl (by decide) rfl rfl ?_
      refine aw_goto (tg := 5) dX3_votersOf_36 (by decide) ?_
      refine ih (a + 1) _ (by omega) (by omega) ?_
      rw [sI_s _ h0, ← em]
      unfold vF
      first
        | (rw [if_neg h20]; omega)
        | (rw [if_pos h20])
    · refine aw_iload_n dX3_votersOf_23 rfl ?_
      refine aw_aload_n dX3_votersOf_24 rfl ?_
      refine aw_getRn dX3_votersOf_25 flX3_46 rfl rfl ?_
      refine aw_iload dX3_votersOf_28 rfl ?_
      refine aw_iald dX3_votersOf_30 rfl (by omega) ?_
      rw [e2]
      refine aw_iadd dX3_votersOf_31 ?_
      refine aw_istore_n (L2 := [_, _, _, _, _]) dX3_votersOf_32 (by decide) rfl rfl ?_
      refine aw_iinc (L2 := [_, _, _, _, _]) dX3_votersOf_33 rfl (by decide) rfl rfl ?_
      refine aw_goto (tg := 5) dX3_votersOf_36 (by decide) ?_
      refine ih (a + 1) _ (by omega) (by omega) ?_
      rw [sI_s _ h0, ← em]
      unfold vF
      first
        | (rw [if_neg h20]; omega)
        | (rw [if_pos h20])
theorem tX3_votersOf (d : Nat) {y pe : Int → Int} {s : Int} {g : sp_G} {Q : sp_P} (hy : rH g 41 0 24 y) (hyb : ∀ a, 0 ≤ a → a < 24 → 0 ≤ y a ∧ y a < 24) (hs : 0 ≤ s ∧ s < 24) (hpe : rH g 2 0 24 pe) (hQ : Q (some (v_i (vo y pe s))) g) : sp_Met d mX3_votersOf [v_r 39, v_i s, v_r 1] g Q := by
  refine sp_of (L := [_, _, _, _, _]) (by decide) (Nat.le_of_ble_eq_true rfl) rfl rfl ?_
  refine aw_iconst dX3_votersOf_0 ?_
  refine aw_istore_n (L2 := [_, _, _, _, _]) dX3_votersOf_1 (by decide) rfl rfl ?_
  refine aw_iconst dX3_votersOf_2 ?_
  refine aw_istore (L2 := [_, _, _, _, _]) dX3_votersOf_3 (by decide) rfl rfl ?_
  exact lX3_votersOf d hy hyb hs hpe hQ 24 0 0 (by omega) (by omega) rfl
theorem lX3_few (d : Nat) {y pe : Int → Int} {c : Int} {g : sp_G} {Q : sp_P} (hc : 1 ≤ c ∧ c ≤ 24) (hcc : g 39 5 = c) (hy : rH g 41 0 24 y) (hyb : ∀ a, 0 ≤ a → a < 24 → 0 ≤ y a ∧ y a < 24) (hpe : rH g 2 0 24 pe) (hpb : ∀ a, 0 ≤ a → a < 24 → 0 ≤ pe a ∧ pe a ≤ 99) (hQ : Q (some (v_i (am (vo y pe) c))) g) :
    ∀ (n : Nat) (s best few : Int) (mm : Option sp_V), 1 ≤ s → s + n = c → best = am (vo y pe) s → few = vo y pe best → sp_AW mX3_fewestVoters (d + 1) 12 [some (v_r 39), some (v_r 1), some (v_i best), some (v_i few), some (v_i s), mm] [] g Q := by
  intro n
  induction n with
  | zero =>
    intro s best few mm h0 hn eb ef
    have es : s = c := by omega
    subst es
    refine aw_iload dX3_fewestVoters_12 rfl ?_
    refine aw_aload_n dX3_fewestVoters_14 rfl ?_
    refine aw_getI (kz := 5) dX3_fewestVoters_15 flX3_28 rfl rfl rfl ?_
    refine aw_icmp_ge (tg := 48) dX3_fewestVoters_18 (by decide) (by rw [hcc]; omega) (fun h18 => ?_) (fun h18 => absurd h18 (by rw [hcc]; omega))
    refine aw_iload_n dX3_fewestVoters_48 rfl ?_
    refine aw_iret dX3_fewestVoters_49 rfl ?_
    rw [eb]
    exact hQ
  | succ n ih =>
    intro s best few mm h0 hn eb ef
    have v1 := vo_b (y := y) s hpb
    have v2 := vo_b (y := y) best hpb
    have hs := am_s (f := vo y pe) (c := s) (by omega)
    refine aw_iload dX3_fewestVoters_12 rfl ?_
    refine aw_aload_n dX3_fewestVoters_14 rfl ?_
    refine aw_getI (kz := 5) dX3_fewestVoters_15 flX3_28 rfl rfl rfl ?_
    refine aw_icmp_ge (tg := 48) dX3_fewestVoters_18 (by decide) (by rw [hcc]; omega) (fun h18 => absurd h18 (by rw [hcc]; omega)) (fun h18 => ?_)
    refine aw_aload_n dX3_fewestVoters_21 rfl ?_
    refine aw_iload dX3_fewestVoters_22 rfl ?_
    refine aw_aload_n dX3_fewestVoters_24 rfl ?_
    refine aw_V2 dX3_fewestVoters_25 okX3_votersOf lkX3_60 rfl rfl rfl ?_
    refine tX3_votersOf d hy hyb (by omega) hpe ?_
    refine aw_istore (L2 := [_, _, _, _, _, _]) dX3_fewestVoters_28 (by decide) rfl rfl ?_
    refine aw_iload dX3_fewestVoters_30 rfl ?_
    refine aw_iload_n dX3_fewestVoters_32 rfl ?_
    refine aw_icmp_ge (tg := 42) dX3_fewestVoters_33 (by decide) (by omega) (fun h33 => ?_) (fun h33 => ?_)
    · refine aw_iinc (L2 := [_, _, _, _, _, _]) dX3_fewestVoters_42 rfl (by decide) rfl rfl ?_
      refine aw_goto (tg := 12) dX3_fewestVoters_45 (by decide) ?_
      first
        | (rw [if_neg (by rw [← eb, ← ef]; omega)] at hs; exact ih (s + 1) _ _ _ (by omega) (by omega) (by rw [hs, eb]) ef)
        | (rw [if_pos (by rw [← eb, ← ef]; omega)] at hs; exact ih (s + 1) _ _ _ (by omega) (by omega) hs.symm rfl)
    · refine aw_iload dX3_fewestVoters_36 rfl ?_
      refine aw_istore_n (L2 := [_, _, _, _, _, _]) dX3_fewestVoters_38 (by decide) rfl rfl ?_
      refine aw_iload dX3_fewestVoters_39 rfl ?_
      refine aw_istore_n (L2 := [_, _, _, _, _, _]) dX3_fewestVoters_41 (by decide) rfl rfl ?_
      refine aw_iinc (L2 := [_, _, _, _, _, _]) dX3_fewestVoters_42 rfl (by decide) rfl rfl ?_
      refine aw_goto (tg := 12) dX3_fewestVoters_45 (by decide) ?_
      first
        | (rw [if_neg (by rw [← eb, ← ef]; omega)] at hs; exact ih (s + 1) _ _ _ (by omega) (by omega) (by rw [hs, eb]) ef)
        | (rw [if_pos (by rw [← eb, ← ef]; omega)] at hs; exact ih (s + 1) _ _ _ (by omega) (by omega) hs.symm rfl)
theorem tX3_fewestVoters (d : Nat) {y pe : Int → Int} {c : Int} {g : sp_G} {Q : sp_P} (hc : 1 ≤ c ∧ c ≤ 24) (hcc : g 39 5 = c) (hy : rH g 41 0 24 y) (hyb : ∀ a, 0 ≤ a → a < 24 → 0 ≤ y a ∧ y a < 24) (hpe : rH g 2 0 24 pe) (hpb : ∀ a, 0 ≤ a → a < 24 → 0 ≤ pe a ∧ pe a ≤ 99) (hQ : Q (some (v_i (am (vo y pe) c))) g) : sp_Met (d + 1) mX3_fewestVoters [v_r 39, v_r 1] g Q := by
  refine sp_of (L := [_, _, _, _, _, _]) (by decide) (Nat.le_of_ble_eq_true rfl) rfl rfl ?_
  refine aw_iconst dX3_fewestVoters_0 ?_
  refine aw_istore_n (L2 := [_, _, _, _, _, _]) dX3_fewestVoters_1 (by decide) rfl rfl ?_
  refine aw_aload_n dX3_fewestVoters_2 rfl ?_
  refine aw_iconst dX3_fewestVoters_3 ?_
  refine aw_aload_n dX3_fewestVoters_4 rfl ?_
  refine aw_V2 dX3_fewestVoters_5 okX3_votersOf lkX3_60 rfl rfl rfl ?_
  refine tX3_votersOf d hy hyb (by omega) hpe ?_
  refine aw_istore_n (L2 := [_, _, _, _, _, _]) dX3_fewestVoters_8 (by decide) rfl rfl ?_
  refine aw_iconst dX3_fewestVoters_9 ?_
  refine aw_istore (L2 := [_, _, _, _, _, _]) dX3_fewestVoters_10 (by decide) rfl rfl ?_
  exact lX3_few d hc hcc hy hyb hpe hpb hQ (c - 1).toNat 1 0 _ _ (by omega) (by omega) (am_1 _).symm rfl
theorem tX3_neighbour (d : Nat) {a sd : Int} {g : sp_G} {Q : sp_P} (ha : 0 ≤ a ∧ a < 24) (hs : 0 ≤ sd ∧ sd < 4) (hQ : Q (some (v_i (nb a sd))) g) : sp_Met d mX3_neighbour [v_i a, v_i sd] g Q := by
  refine sp_of (L := [_, _, _]) (by decide) (Nat.le_of_ble_eq_true rfl) rfl rfl ?_
  unfold nb at hQ
  refine aw_iload_n dX3_neighbour_0 rfl ?_
  refine aw_iconst dX3_neighbour_1 ?_
  refine aw_irem dX3_neighbour_2 (by omega) ?_
  refine aw_istore_n (L2 := [_, _, _]) dX3_neighbour_3 (by decide) rfl rfl ?_
  refine aw_iload_n dX3_neighbour_4 rfl ?_
  rcases (show sd = 0 ∨ sd = 1 ∨ sd = 2 ∨ sd = 3 by omega) with h | h | h | h
  · subst h
    refine aw_tin (tg := 32) dX3_neighbour_5 (by omega) (by omega) rfl (by decide) ?_
    refine aw_iload_n dX3_neighbour_32 rfl ?_
    refine aw_iconst dX3_neighbour_33 ?_
    refine aw_icmp_ge (tg := 43) dX3_neighbour_34 (by decide) (by omega) (fun h34 => ?_) (fun h34 => ?_)
    · refine aw_iconst dX3_neighbour_43 ?_
      refine aw_iret dX3_neighbour_44 rfl ?_
      first | exact p_ie (P := fun z => Q (some (v_i z)) _) hQ (by omega) | exact p_it (P := fun z => Q (some (v_i z)) _) hQ (by omega)
    · refine aw_iload_n dX3_neighbour_37 rfl ?_
      refine aw_iconst dX3_neighbour_38 ?_
      refine aw_iadd dX3_neighbour_39 ?_
      refine aw_goto (tg := 44) dX3_neighbour_40 (by decide) ?_
      refine aw_iret dX3_neighbour_44 rfl ?_
      first | exact p_ie (P := fun z => Q (some (v_i z)) _) hQ (by omega) | exact p_it (P := fun z => Q (some (v_i z)) _) hQ (by omega)
  · subst h
    refine aw_tin (tg := 45) dX3_neighbour_5 (by omega) (by omega) rfl (by decide) ?_
    refine aw_iload_n dX3_neighbour_45 rfl ?_
    refine aw_bipush dX3_neighbour_46 (by decide) ?_
    refine aw_icmp_ge (tg := 57) dX3_neighbour_48 (by decide) (by omega) (fun h48 => ?_) (fun h48 => ?_)
    · refine aw_iconst dX3_neighbour_57 ?_
      refine aw_iret dX3_neighbour_58 rfl ?_
      first | exact p_ie (P := fun z => Q (some (v_i z)) _) hQ (by omega) | exact p_it (P := fun z => Q (some (v_i z)) _) hQ (by omega)
    · refine aw_iload_n dX3_neighbour_51 rfl ?_
      refine aw_iconst dX3_neighbour_52 ?_
      refine aw_iadd dX3_neighbour_53 ?_
      refine aw_goto (tg := 58) dX3_neighbour_54 (by decide) ?_
      refine aw_iret dX3_neighbour_58 rfl ?_
      first | exact p_ie (P := fun z => Q (some (v_i z)) _) hQ (by omega) | exact p_it (P := fun z => Q (some (v_i z)) _) hQ (by omega)
  · subst h
    refine aw_tin (tg := 59) dX3_neighbour_5 (by omega) (by omega) rfl (by decide) ?_
    refine aw_iload_n dX3_neighbour_59 rfl ?_
    refine aw_if_le (tg := 69) dX3_neighbour_60 (by decide) (by omega) (fun h60 => ?_) (fun h60 => ?_)
    · refine aw_iconst dX3_neighbour_69 ?_
      refine aw_iret dX3_neighbour_70 rfl ?_
      first | exact p_ie (P := fun z => Q (some (v_i z)) _) hQ (by omega) | exact p_it (P := fun z => Q (some (v_i z)) _) hQ (by omega)
    · refine aw_iload_n dX3_neighbour_63 rfl ?_
      refine aw_iconst dX3_neighbour_64 ?_
      refine aw_isub dX3_neighbour_65 ?_
      refine aw_goto (tg := 70) dX3_neighbour_66 (by decide) ?_
      refine aw_iret dX3_neighbour_70 rfl ?_
      first | exact p_ie (P := fun z => Q (some (v_i z)) _) hQ (by omega) | exact p_it (P := fun z => Q (some (v_i z)) _) hQ (by omega)
  · subst h
    refine aw_tout (tg := 71) dX3_neighbour_5 (by omega) (by omega) (by decide) ?_
    refine aw_iload_n dX3_neighbour_71 rfl ?_
    refine aw_iconst dX3_neighbour_72 ?_
    refine aw_icmp_lt (tg := 82) dX3_neighbour_73 (by decide) (by omega) (fun h73 => ?_) (fun h73 => ?_)
    · refine aw_iconst dX3_neighbour_82 ?_
      refine aw_iret dX3_neighbour_83 rfl ?_
      first | exact p_ie (P := fun z => Q (some (v_i z)) _) hQ (by omega) | exact p_it (P := fun z => Q (some (v_i z)) _) hQ (by omega)
    · refine aw_iload_n dX3_neighbour_76 rfl ?_
      refine aw_iconst dX3_neighbour_77 ?_
      refine aw_isub dX3_neighbour_78 ?_
      refine aw_goto (tg := 83) dX3_neighbour_79 (by decide) ?_
      refine aw_iret dX3_neighbour_83 rfl ?_
      first | exact p_ie (P := fun z => Q (some (v_i z)) _) hQ (by omega) | exact p_it (P := fun z => Q (some (v_i z)) _) hQ (by omega)
theorem tX3_arePair (d : Nat) {x y s q : Int} {g : sp_G} {Q : sp_P} (hr : ((-2147483648 ≤ x ∧ x < 2147483648)) ∧ ((-2147483648 ≤ y ∧ y < 2147483648)) ∧ ((-2147483648 ≤ s ∧ s < 2147483648)) ∧ ((-2147483648 ≤ q ∧ q < 2147483648))) (hQ : Q (some (v_i (sp_bl (x = s ∧ y = q ∨ x = q ∧ y = s)))) g) : sp_Met d mX3_arePair [v_i x, v_i y, v_i s, v_i q] g Q := by
  refine sp_of (L := [_, _, _, _]) (by decide) (Nat.le_of_ble_eq_true rfl) rfl rfl ?_
  refine aw_iload_n dX3_arePair_0 rfl ?_
  refine aw_iload_n dX3_arePair_1 rfl ?_
  refine aw_icmp_ne (tg := 10) dX3_arePair_2 (by decide) (by omega) (fun h2 => ?_) (fun h2 => ?_)
  · refine aw_iload_n dX3_arePair_10 rfl ?_
    refine aw_iload_n dX3_arePair_11 rfl ?_
    refine aw_icmp_ne (tg := 24) dX3_arePair_12 (by decide) (by omega) (fun h12 => ?_) (fun h12 => ?_)
    · refine aw_iconst dX3_arePair_24 ?_
      refine aw_zret dX3_arePair_25 rfl (by decide) ?_
      first | exact p_ie (P := fun z => Q (some (v_i z)) _) hQ (by omega) | exact p_it (P := fun z => Q (some (v_i z)) _) hQ (by omega)
    · refine aw_iload_n dX3_arePair_15 rfl ?_
      refine aw_iload_n dX3_arePair_16 rfl ?_
      refine aw_icmp_ne (tg := 24) dX3_arePair_17 (by decide) (by omega) (fun h17 => ?_) (fun h17 => ?_)
      · refine aw_iconst dX3_arePair_24 ?_
        refine aw_zret dX3_arePair_25 rfl (by decide) ?_
        first | exact p_ie (P := fun z => Q (some (v_i z)) _) hQ (by omega) | exact p_it (P := fun z => Q (some (v_i z)) _) hQ (by omega)
      · refine aw_iconst dX3_arePair_20 ?_
        refine aw_goto (tg := 25) dX3_arePair_21 (by decide) ?_
        refine aw_zret dX3_arePair_25 rfl (by decide) ?_
        first | exact p_ie (P := fun z => Q (some (v_i z)) _) hQ (by omega) | exact p_it (P := fun z => Q (some (v_i z)) _) hQ (by omega)
  · refine aw_iload_n dX3_arePair_5 rfl ?_
    refine aw_iload_n dX3_arePair_6 rfl ?_
    refine aw_icmp_eq (tg := 20) dX3_arePair_7 (by decide) (by omega) (fun h7 => ?_) (fun h7 => ?_)
    · refine aw_iconst dX3_arePair_20 ?_
      refine aw_goto (tg := 25) dX3_arePair_21 (by decide) ?_
      refine aw_zret dX3_arePair_25 rfl (by decide) ?_
      first | exact p_ie (P := fun z => Q (some (v_i z)) _) hQ (by omega) | exact p_it (P := fun z => Q (some (v_i z)) _) hQ (by omega)
    · refine aw_iload_n dX3_arePair_10 rfl ?_
      refine aw_iload_n dX3_arePair_11 rfl ?_
      refine aw_icmp_ne (tg := 24) dX3_arePair_12 (by decide) (by omega) (fun h12 => ?_) (fun h12 => ?_)
      · refine aw_iconst dX3_arePair_24 ?_
        refine aw_zret dX3_arePair_25 rfl (by decide) ?_
        first | exact p_ie (P := fun z => Q (some (v_i z)) _) hQ (by omega) | exact p_it (P := fun z => Q (some (v_i z)) _) hQ (by omega)
      · refine aw_iload_n dX3_arePair_15 rfl ?_
        refine aw_iload_n dX3_arePair_16 rfl ?_
        refine aw_icmp_ne (tg := 24) dX3_arePair_17 (by decide) (by omega) (fun h17 => ?_) (fun h17 => ?_)
        · refine aw_iconst dX3_arePair_24 ?_
          refine aw_zret dX3_arePair_25 rfl (by decide) ?_
          first | exact p_ie (P := fun z => Q (some (v_i z)) _) hQ (by omega) | exact p_it (P := fun z => Q (some (v_i z)) _) hQ (by omega)
        · refine aw_iconst dX3_arePair_20 ?_
          refine aw_goto (tg := 25) dX3_arePair_21 (by decide) ?_
          refine aw_zret dX3_arePair_25 rfl (by decide) ?_
          first | exact p_ie (P := fun z => Q (some (v_i z)) _) hQ (by omega) | exact p_it (P := fun z => Q (some (v_i z)) _) hQ (by omega)
def bd (y : Int → Int) : Int → Int := fun a => sI (pF (fun p q => p ≠ q) y a) 2
theorem lX3_unl_in (d : Nat) {y : Int → Int} {a : Int} {g : sp_G} {Q : sp_P} (hy : rH g 41 0 24 y) (hyb : ∀ a, 0 ≤ a → a < 24 → 0 ≤ y a ∧ y a < 24) (ha : 0 ≤ a ∧ a < 24) {m0 : Int}
    (hk : ∀ (sx bx : Option sp_V), sp_AW mX3_unlikePairs (d + 1) 55 [some (v_r 39), some (v_i (m0 + bd y a)), some (v_i a), sx, bx] [] g Q) :
    ∀ (n : Nat) (sd many : Int) (bx : Option sp_V), 0 ≤ sd → sd + n = 2 → many = m0 + sI (pF (fun p q => p ≠ q) y a) sd → sp_AW mX3_unlikePairs (d + 1) 12 [some (v_r 39), some (v_i many), some (v_i a), some (v_i sd), bx] [] g Q := by
  intro n
  induction n with
  | zero =>
    intro sd many bx h0 hn em
    have ea : sd = 2 := by omega
    subst ea
    refine aw_iload_n dX3_unlikePairs_12 rfl ?_
    refine aw_iconst dX3_unlikePairs_13 ?_
    refine aw_icmp_ge (tg := 55) dX3_unlikePairs_14 (by decide) (by omega) (fun h14 => ?_) (fun h14 => absurd h14 (by omega))
    rw [em]
    exact hk _ _
  | succ n ih =>
    intro sd many bx h0 hn em
    have hnb := nb_b (sd := sd) ha
    have e1 := hy a a ha.1 ha.2 (by omega)
    have b1 := hyb a ha.1 ha.2
    refine aw_iload_n dX3_unlikePairs_12 rfl ?_
    refine aw_iconst dX3_unlikePairs_13 ?_
    refine aw_icmp_ge (tg := 55) dX3_unlikePairs_14 (by decide) (by omega) (fun h14 => absurd h14 (by omega)) (fun h14 => ?_)
    refine aw_iload_n dX3_unlikePairs_17 rfl ?_
    refine aw_iload_n dX3_unlikePairs_18 rfl ?_
    refine aw_S2 dX3_unlikePairs_19 okX3_neighbour lkX3_53 rfl ?_
    refine tX3_neighbour d ha (by omega) ?_
    refine aw_istore (L2 := [_, _, _, _, _]) dX3_unlikePairs_22 (by decide) rfl rfl ?_
    refine aw_iload dX3_unlikePairs_24 rfl ?_
    refine aw_iconst dX3_unlikePairs_26 ?_
    refine aw_icmp_eq (tg := 49) dX3_unlikePairs_27 (by decide) (by omega) (fun h27 => ?_) (fun h27 => ?_)
    · refine aw_iinc (L2 := [_, _, _, _, _]) dX3_unlikePairs_49 rfl (by decide) rfl rfl ?_
      refine aw_goto (tg := 12) dX3_unlikePairs_52 (by decide) ?_
      refine ih (sd + 1) _ _ (by omega) (by omega) ?_
      rw [sI_s _ h0, em]
      simp only [pF]
      split <;> omega
    · have e2 := hy (nb a sd) (nb a sd) (by omega) (by omega) (by omega)
      have b2 := hyb (nb a sd) (by omega) (by omega)
      refine aw_aload_n dX3_unlikePairs_30 rfl ?_
      refine aw_getR dX3_unlikePairs_31 flX3_15 rfl rfl ?_
      refine aw_iload_n dX3_unlikePairs_34 rfl ?_
      refine aw_iald dX3_unlikePairs_35 rfl (by omega) ?_
      rw [e1]
      refine aw_aload_n dX3_unlikePairs_36 rfl ?_
      refine aw_getR dX3_unlikePairs_37 flX3_15 rfl rfl ?_
      refine aw_iload dX3_unlikePairs_40 rfl ?_
      refine aw_iald dX3_unlikePairs_42 rfl (by omega) ?_
      rw [e2]
      refine aw_icmp_eq (tg := 49) dX3_unlikePairs_43 (by decide) (by omega) (fun h43 => ?_) (fun h43 => ?_)
      · refine aw_iinc (L2 := [_, _, _, _, _]) dX3_unlikePairs_49 rfl (by decide) rfl rfl ?_
        refine aw_goto (tg := 12) dX3_unlikePairs_52 (by decide) ?_
        refine ih (sd + 1) _ _ (by omega) (by omega) ?_
        rw [sI_s _ h0, em]
        simp only [pF]
        split <;> omega
      · refine aw_iinc (L2 := [_, _, _, _, _]) dX3_unlikePairs_46 rfl (by decide) rfl rfl ?_
        refine aw_iinc (L2 := [_, _, _, _, _]) dX3_unlikePairs_49 rfl (by decide) rfl rfl ?_
        refine aw_goto (tg := 12) dX3_unlikePairs_52 (by decide) ?_
        refine ih (sd + 1) _ _ (by omega) (by omega) ?_
        rw [sI_s _ h0, em]
        simp only [pF]
        split <;> omega
theorem lX3_unl (d : Nat) {y : Int → Int} {g : sp_G} {Q : sp_P} (hy : rH g 41 0 24 y) (hyb : ∀ a, 0 ≤ a → a < 24 → 0 ≤ y a ∧ y a < 24) (hQ : Q (some (v_i (sI (bd y) 24))) g) :
    ∀ (n : Nat) (a many : Int) (sx bx : Option sp_V), 0 ≤ a → a + n = 24 → many = sI (bd y) a → sp_AW mX3_unlikePairs (d + 1) 4 [some (v_r 39), some (v_i many), some (v_i a), sx, bx] [] g Q := by
  intro n
  induction n with
  | zero =>
    intro a many sx bx h0 hn em
    have ea : a = 24 := by omega
    subst ea
    refine aw_iload_n dX3_unlikePairs_4 rfl ?_
    refine aw_bipush dX3_unlikePairs_5 (by decide) ?_
    refine aw_icmp_ge (tg := 61) dX3_unlikePairs_7 (by decide) (by omega) (fun h7 => ?_) (fun h7 => absurd h7 (by omega))
    refine aw_iload_n dX3_unlikePairs_61 rfl ?_
    refine aw_iret dX3_unlikePairs_62 rfl ?_
    rw [em]
    exact hQ
  | succ n ih =>
    intro a many sx bx h0 hn em
    refine aw_iload_n dX3_unlikePairs_4 rfl ?_
    refine aw_bipush dX3_unlikePairs_5 (by decide) ?_
    refine aw_icmp_ge (tg := 61) dX3_unlikePairs_7 (by decide) (by omega) (fun h7 => absurd h7 (by omega)) (fun h7 => ?_)
    refine aw_iconst dX3_unlikePairs_10 ?_
    refine aw_istore_n (L2 := [_, _, _, _, _]) dX3_unlikePairs_11 (by decide) rfl rfl ?_
    refine lX3_unl_in d hy hyb (by omega) (m0 := many) (fun sx bx => ?_) 2 0 _ _ (by omega) (by omega) (by rw [sI_0]; omega)
    refine aw_iinc (L2 := [_, _, _, _, _]) dX3_unlikePairs_55 rfl (by decide) rfl rfl ?_
    refine aw_goto (tg := 4) dX3_unlikePairs_58 (by decide) ?_
    refine ih (a + 1) _ _ _ (by omega) (by omega) ?_
    rw [sI_s _ h0, em]
theorem tX3_unlikePairs (d : Nat) {y : Int → Int} {g : sp_G} {Q : sp_P} (hy : rH g 41 0 24 y) (hyb : ∀ a, 0 ≤ a → a < 24 → 0 ≤ y a ∧ y a < 24) (hQ : Q (some (v_i (sI (bd y) 24))) g) : sp_Met (d + 1) mX3_unlikePairs [v_r 39] g Q := by
  refine sp_of (L := [_, _, _, _, _]) (by decide) (Nat.le_of_ble_eq_true rfl) rfl rfl ?_
  refine aw_iconst dX3_unlikePairs_0 ?_
  refine aw_istore_n (L2 := [_, _, _, _, _]) dX3_unlikePairs_1 (by decide) rfl rfl ?_
  refine aw_iconst dX3_unlikePairs_2 ?_
  refine aw_istore_n (L2 := [_, _, _, _, _]) dX3_unlikePairs_3 (by decide) rfl rfl ?_
  exact lX3_unl d hy hyb hQ 24 0 0 _ _ (by omega) (by omega) rfl
def bs (y : Int → Int) (s q : Int) : Int → Int := fun a => sI (pF (fun x z => x = s ∧ z = q ∨ x = q ∧ z = s) y a) 2
theorem lX3_prs_in (d : Nat) {y : Int → Int} {a s q : Int} {g : sp_G} {Q : sp_P} (hy : rH g 41 0 24 y) (hyb : ∀ a, 0 ≤ a → a < 24 → 0 ≤ y a ∧ y a < 24) (hs : 0 ≤ s ∧ s < 24) (hq : 0 ≤ q ∧ q < 24) (ha : 0 ≤ a ∧ a < 24) {m0 : Int}
    (hk : ∀ (sx bx : Option sp_V), sp_AW mX3_pairsOf (d + 1) 67 [some (v_r 39), some (v_i s), some (v_i q), some (v_i (m0 + bs y s q a)), some (v_i a), sx, bx] [] g Q) :
    ∀ (n : Nat) (sd many : Int) (bx : Option sp_V), 0 ≤ sd → sd + n = 2 → many = m0 + sI (pF (fun x z => x = s ∧ z = q ∨ x = q ∧ z = s) y a) sd → sp_AW mX3_pairsOf (d + 1) 15 [some (v_r 39), some (v_i s), some (v_i q), some (v_i many), some (v_i a), some (v_i sd), bx] [] g Q := by
  intro n
  induction n with
  | zero =>
    intro sd many bx h0 hn em
    have ea : sd = 2 := by omega
    subst ea
    refine aw_iload dX3_pairsOf_15 rfl ?_
    refine aw_iconst dX3_pairsOf_17 ?_
    refine aw_icmp_ge (tg := 67) dX3_pairsOf_18 (by decide) (by omega) (fun h18 => ?_) (fun h18 => absurd h18 (by omega))
    rw [em]
    exact hk _ _
  | succ n ih =>
    intro sd many bx h0 hn em
    have hnb := nb_b (sd := sd) ha
    have e1 := hy a a ha.1 ha.2 (by omega)
    have b1 := hyb a ha.1 ha.2
    refine aw_iload dX3_pairsOf_15 rfl ?_
    refine aw_iconst dX3_pairsOf_17 ?_
    refine aw_icmp_ge (tg := 67) dX3_pairsOf_18 (by decide) (by omega) (fun h18 => absurd h18 (by omega)) (fun h18 => ?_)
    refine aw_iload dX3_pairsOf_21 rfl ?_
    refine aw_iload dX3_pairsOf_23 rfl ?_
    refine aw_S2 dX3_pairsOf_25 okX3_neighbour lkX3_53 rfl ?_
    refine tX3_neighbour d ha (by omega) ?_
    refine aw_istore (L2 := [_, _, _, _, _, _, _]) dX3_pairsOf_28 (by decide) rfl rfl ?_
    refine aw_iload dX3_pairsOf_30 rfl ?_
    refine aw_iconst dX3_pairsOf_32 ?_
    refine aw_icmp_eq (tg := 61) dX3_pairsOf_33 (by decide) (by omega) (fun h33 => ?_) (fun h33 => ?_)
    · refine aw_iinc (L2 := [_, _, _, _, _, _, _]) dX3_pairsOf_61 rfl (by decide) rfl rfl ?_
      refine aw_goto (tg := 15) dX3_pairsOf_64 (by decide) ?_
      refine ih (sd + 1) _ _ (by omega) (by omega) ?_
      rw [sI_s _ h0, em]
      simp only [pF]
      split <;> omega
    · have e2 := hy (nb a sd) (nb a sd) (by omega) (by omega) (by omega)
      have b2 := hyb (nb a sd) (by omega) (by omega)
      refine aw_aload_n dX3_pairsOf_36 rfl ?_
      refine aw_getR dX3_pairsOf_37 flX3_15 rfl rfl ?_
      refine aw_iload dX3_pairsOf_40 rfl ?_
      refine aw_iald dX3_pairsOf_42 rfl (by omega) ?_
      rw [e1]
      refine aw_aload_n dX3_pairsOf_43 rfl ?_
      refine aw_getR dX3_pairsOf_44 flX3_15 rfl rfl ?_
      refine aw_iload dX3_pairsOf_47 rfl ?_
      refine aw_iald dX3_pairsOf_49 rfl (by omega) ?_
      rw [e2]
      refine aw_iload_n dX3_pairsOf_50 rfl ?_
      refine aw_iload_n dX3_pairsOf_51 rfl ?_
      refine aw_S4 dX3_pairsOf_52 okX3_arePair lkX3_56 rfl ?_
      refine tX3_arePair d (by omega) ?_
      refine aw_ifeq_b (tg := 61) dX3_pairsOf_55 (by decide) (fun h55 => ?_) (fun h55 => ?_)
      · refine aw_iinc (L2 := [_, _, _, _, _, _, _]) dX3_pairsOf_61 rfl (by decide) rfl rfl ?_
        refine aw_goto (tg := 15) dX3_pairsOf_64 (by decide) ?_
        refine ih (sd + 1) _ _ (by omega) (by omega) ?_
        rw [sI_s _ h0, em]
        simp only [pF]
        split <;> omega
      · refine aw_iinc (L2 := [_, _, _, _, _, _, _]) dX3_pairsOf_58 rfl (by decide) rfl rfl ?_
        refine aw_iinc (L2 := [_, _, _, _, _, _, _]) dX3_pairsOf_61 rfl (by decide) rfl rfl ?_
        refine aw_goto (tg := 15) dX3_pairsOf_64 (by decide) ?_
        refine ih (sd + 1) _ _ (by omega) (by omega) ?_
        rw [sI_s _ h0, em]
        simp only [pF]
        split <;> omega
theorem lX3_prs (d : Nat) {y : Int → Int} {s q : Int} {g : sp_G} {Q : sp_P} (hy : rH g 41 0 24 y) (hyb : ∀ a, 0 ≤ a → a < 24 → 0 ≤ y a ∧ y a < 24) (hs : 0 ≤ s ∧ s < 24) (hq : 0 ≤ q ∧ q < 24) (hQ : Q (some (v_i (sI (bs y s q) 24))) g) :
    ∀ (n : Nat) (a many : Int) (sx bx : Option sp_V), 0 ≤ a → a + n = 24 → many = sI (bs y s q) a → sp_AW mX3_pairsOf (d + 1) 5 [some (v_r 39), some (v_i s), some (v_i q), some (v_i many), some (v_i a), sx, bx] [] g Q := by
  intro n
  induction n with
  | zero =>
    intro a many sx bx h0 hn em
    have ea : a = 24 := by omega
    subst ea
    refine aw_iload dX3_pairsOf_5 rfl ?_
    refine aw_bipush dX3_pairsOf_7 (by decide) ?_
    refine aw_icmp_ge (tg := 73) dX3_pairsOf_9 (by decide) (by omega) (fun h9 => ?_) (fun h9 => absurd h9 (by omega))
    refine aw_iload_n dX3_pairsOf_73 rfl ?_
    refine aw_iret dX3_pairsOf_74 rfl ?_
    rw [em]
    exact hQ
  | succ n ih =>
    intro a many sx bx h0 hn em
    refine aw_iload dX3_pairsOf_5 rfl ?_
    refine aw_bipush dX3_pairsOf_7 (by decide) ?_
    refine aw_icmp_ge (tg := 73) dX3_pairsOf_9 (by decide) (by omega) (fun h9 => absurd h9 (by omega)) (fun h9 => ?_)
    refine aw_iconst dX3_pairsOf_12 ?_
    refine aw_istore (L2 := [_, _, _, _, _, _, _]) dX3_pairsOf_13 (by decide) rfl rfl ?_
    refine lX3_prs_in d hy hyb hs hq (by omega) (m0 := many) (fun sx bx => ?_) 2 0 _ _ (by omega) (by omega) (by rw [sI_0]; omega)
    refine aw_iinc (L2 := [_, _, _, _, _, _, _]) dX3_pairsOf_67 rfl (by decide) rfl rfl ?_
    refine aw_goto (tg := 5) dX3_pairsOf_70 (by decide) ?_
    refine ih (a + 1) _ _ _ (by omega) (by omega) ?_
    rw [sI_s _ h0, em]
theorem tX3_pairsOf (d : Nat) {y : Int → Int} {s q : Int} {g : sp_G} {Q : sp_P} (hy : rH g 41 0 24 y) (hyb : ∀ a, 0 ≤ a → a < 24 → 0 ≤ y a ∧ y a < 24) (hs : 0 ≤ s ∧ s < 24) (hq : 0 ≤ q ∧ q < 24) (hQ : Q (some (v_i (sI (bs y s q) 24))) g) : sp_Met (d + 1) mX3_pairsOf [v_r 39, v_i s, v_i q] g Q := by
  refine sp_of (L := [_, _, _, _, _, _, _]) (by decide) (Nat.le_of_ble_eq_true rfl) rfl rfl ?_
  refine aw_iconst dX3_pairsOf_0 ?_
  refine aw_istore_n (L2 := [_, _, _, _, _, _, _]) dX3_pairsOf_1 (by decide) rfl rfl ?_
  refine aw_iconst dX3_pairsOf_2 ?_
  refine aw_istore (L2 := [_, _, _, _, _, _, _]) dX3_pairsOf_3 (by decide) rfl rfl ?_
  exact lX3_prs d hy hyb hs hq hQ 24 0 0 _ _ (by omega) (by omega) rfl
