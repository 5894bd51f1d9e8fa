/-- a visit under way: h of t gone through -/
def vJ (y u : Int → Int) (s fr : Int) (g0 g : sp_G) (q v : Int → Int) (h t : Int) : Prop :=
  (rH g 43 0 t q ∧ rH g 44 0 24 v ∧ sp_fr [43, 44] g0 g ∧ 1 ≤ t ∧ t ≤ 24 ∧ 0 ≤ h ∧ h ≤ t ∧ q 0 = fr) ∧
  (∀ b, 0 ≤ b → b < 24 → (v b = 0 ∨ v b = 1) ∧ (v b = 1 ↔ u b = 1 ∨ ∃ i, 0 ≤ i ∧ i < t ∧ q i = b)) ∧
  (∀ i, 0 ≤ i → i < t → (0 ≤ q i ∧ q i < 24) ∧ u (q i) = 0 ∧ cn y s fr (q i)) ∧
  (∀ i j, 0 ≤ i → i < t → 0 ≤ j → j < t → q i = q j → i = j) ∧
  (∀ i, 0 ≤ i → i < h → ∀ e, 0 ≤ e → e < 24 → adj (q i) e → v e = 1)
theorem lX3_vis_in (d : Nat) {y u : Int → Int} {s fr : Int} {g0 : sp_G} {Q : sp_P} (hfr : 0 ≤ fr ∧ fr < 24) (hub : ∀ b, 0 ≤ b → b < 24 → u b = 0 ∨ u b = 1) (huf : u fr = 0) (hus : ∀ b, 0 ≤ b → b < 24 → u b = 0 → y b = s) (hcl : ∀ c e, 0 ≤ c → c < 24 → 0 ≤ e → e < 24 → u c = 1 → y c = s → adj c e → y e = s → u e = 1) {h : Int}
    (hk : ∀ (g : sp_G) (q v : Int → Int) (t : Int) (sx bx : Option sp_V), vJ y u s fr g0 g q v (h + 1) t → sp_AW mX3_visitPart (d + 1) 98 [some (v_r 39), some (v_i fr), some (v_i t), some (v_i h), sx, bx] [] g Q) :
    ∀ (n : Nat) (sd t : Int) (g : sp_G) (q v : Int → Int) (bx : Option sp_V), 0 ≤ sd → sd + n = 4 → h < t → vJ y u s fr g0 g q v h t → (∀ x, 0 ≤ x → x < sd → nb (q h) x ≠ -1 → v (nb (q h) x) = 1) → sp_AW mX3_visitPart (d + 1) 32 [some (v_r 39), some (v_i fr), some (v_i t), some (v_i h), some (v_i sd), bx] [] g Q := by
  intro n
  induction n with
  | zero =>
    intro sd t g q v bx h0 hn hht hJ hsd
    have es : sd = 4 := by omega
    subst es
    obtain ⟨⟨j1, j2, j3, j4, j5, j6, j7, j8⟩, j9, j10, j11, j12⟩ := hJ
    have hJ2 : vJ y u s fr g0 g q v (h + 1) t := by
      refine ⟨⟨j1, j2, j3, j4, j5, by omega, by omega, j8⟩, j9, j10, j11, fun i i0 i1 e e0 e1 hie => ?_⟩
      by_cases hi : i = h
      · subst hi
        obtain ⟨x, x0, x1, x2⟩ := nb_of (j10 i i0 (by omega)).1 ⟨e0, e1⟩ hie
        have := hsd x x0 x1 (by omega)
        rw [x2] at this
        exact this
      · exact j12 i i0 (by omega) e e0 e1 hie
    refine aw_iload dX3_visitPart_32 rfl ?_
    refine aw_iconst dX3_visitPart_34 ?_
    refine aw_icmp_ge (tg := 98) dX3_visitPart_35 (by decide) (by omega) (fun h35 => ?_) (fun h35 => absurd h35 (by omega))
    exact hk g q v t _ _ hJ2
  | succ n ih =>
    intro sd t g q v bx h0 hn hht hJ hsd
    have hJ0 := hJ
    obtain ⟨⟨j1, j2, j3, j4, j5, j6, j7, j8⟩, j9, j10, j11, j12⟩ := hJ
    have eq := j1 h h j6 hht (by omega)
    have bq := (j10 h j6 hht).1
    have hnb := nb_b (sd := sd) bq
    refine aw_iload dX3_visitPart_32 rfl ?_
    refine aw_iconst dX3_visitPart_34 ?_
    refine aw_icmp_ge (tg := 98) dX3_visitPart_35 (by decide) (by omega) (fun h35 => absurd h35 (by omega)) (fun h35 => ?_)
    refine aw_aload_n dX3_visitPart_38 rfl ?_
    refine aw_getR dX3_visitPart_39 flX3_21 rfl rfl ?_
    refine aw_iload_n dX3_visitPart_42 rfl ?_
    refine aw_iald dX3_visitPart_43 rfl (by omega) ?_
    rw [eq]
    refine aw_iload dX3_visitPart_44 rfl ?_
    refine aw_S2 dX3_visitPart_46 okX3_neighbour lkX3_53 rfl ?_
    refine tX3_neighbour d bq (by omega) ?_
    refine aw_istore (L2 := [_, _, _, _, _, _]) dX3_visitPart_49 (by decide) rfl rfl ?_
    refine aw_iload dX3_visitPart_51 rfl ?_
    refine aw_iconst dX3_visitPart_53 ?_
    refine aw_icmp_eq (tg := 92) dX3_visitPart_54 (by decide) (by omega) (fun h54 => ?_) (fun h54 => ?_)
    · refine aw_iinc (L2 := [_, _, _, _, _, _]) dX3_visitPart_92 rfl (by decide) rfl rfl ?_
      refine aw_goto (tg := 32) dX3_visitPart_95 (by decide) ?_
      exact ih (sd + 1) t g q v _ (by omega) (by omega) hht hJ0 (fun x x0 x1 x2 => by
        by_cases hx : x = sd
        · subst hx
          exact absurd h54 x2
        · exact hsd x x0 (by omega) x2)
    · generalize hb : nb (q h) sd = b at *
      have e2 := j2 b b (by omega) (by omega) (by omega)
      have b2 := (j9 b (by omega) (by omega)).1
      refine aw_aload_n dX3_visitPart_57 rfl ?_
      refine aw_getR dX3_visitPart_58 flX3_24 rfl rfl ?_
      refine aw_iload dX3_visitPart_61 rfl ?_
      refine aw_zald dX3_visitPart_63 rfl (by omega) ?_
      rw [e2]
      refine aw_if_ne (tg := 92) dX3_visitPart_64 (by decide) (by omega) (fun h64 => ?_) (fun h64 => ?_)
      · refine aw_iinc (L2 := [_, _, _, _, _, _]) dX3_visitPart_92 rfl (by decide) rfl rfl ?_
        refine aw_goto (tg := 32) dX3_visitPart_95 (by decide) ?_
        exact ih (sd + 1) t g q v _ (by omega) (by omega) hht hJ0 (fun x x0 x1 x2 => by
          by_cases hx : x = sd
          · rw [hx, hb]; omega
          · exact hsd x x0 (by omega) x2)
      · have hnew : ∀ i, 0 ≤ i → i < t → q i ≠ b := fun i i0 i1 e => by
          have := (j9 b (by omega) (by omega)).2.mpr (Or.inr ⟨i, i0, i1, e⟩)
          omega
        have hub2 : u b = 0 := by
          rcases hub b (by omega) (by omega) with e | e
          · exact e
          · have := (j9 b (by omega) (by omega)).2.mpr (Or.inl e)
            omega
        have hdist : ∀ i j, 0 ≤ i → i < t + 1 → 0 ≤ j → j < t + 1 → up1 q t b i = up1 q t b j → i = j := by
          intro i j i0 i1 k0 k1 e
          by_cases hi : i = t
          · by_cases hj : j = t
            · omega
            · rw [hi, up1_s, up1_n _ _ hj] at e
              exact absurd e.symm (hnew j k0 (by omega))
          · by_cases hj : j = t
            · rw [hj, up1_s, up1_n _ _ hi] at e
              exact absurd e (hnew i i0 (by omega))
            · rw [up1_n _ _ hi, up1_n _ _ hj] at e
              exact j11 i j i0 (by omega) k0 (by omega) e
        have hrng : ∀ i, 0 ≤ i → i < t + 1 → 0 ≤ up1 q t b i ∧ up1 q t b i < 24 := by
          intro i i0 i1
          by_cases hi : i = t
          · rw [hi, up1_s]; omega
          · rw [up1_n _ _ hi]; exact (j10 i i0 (by omega)).1
        have ht24 := q_holes (q := up1 q t b) (t := t + 1) (by omega) hrng hdist
        have hadj : adj (q h) b := by omega
        have hyb : y b = s := hus b (by omega) (by omega) hub2
        have hcnb : cn y s fr b := cn_st (j10 h j6 hht).2.2 bq (by omega) hadj hyb
        refine aw_iload_n dX3_visitPart_67 rfl ?_
        refine aw_bipush dX3_visitPart_68 (by decide) ?_
        refine aw_icmp_ge (tg := 92) dX3_visitPart_70 (by decide) (by omega) (fun h70 => absurd h70 (by omega)) (fun h70 => ?_)
        refine aw_aload_n dX3_visitPart_73 rfl ?_
        refine aw_getR dX3_visitPart_74 flX3_24 rfl rfl ?_
        refine aw_iload dX3_visitPart_77 rfl ?_
        refine aw_iconst dX3_visitPart_79 ?_
        refine aw_zast dX3_visitPart_80 rfl (by omega) (by omega) ?_
        refine aw_aload_n dX3_visitPart_81 rfl ?_
        refine aw_getR dX3_visitPart_82 flX3_21 rfl rfl ?_
        refine aw_iload_n dX3_visitPart_85 rfl ?_
        refine aw_iload dX3_visitPart_86 rfl ?_
        refine aw_iast dX3_visitPart_88 rfl (by omega) ?_
        refine aw_iinc (L2 := [_, _, _, _, _, _]) dX3_visitPart_89 rfl (by decide) rfl rfl ?_
        refine aw_iinc (L2 := [_, _, _, _, _, _]) dX3_visitPart_92 rfl (by decide) rfl rfl ?_
        refine aw_goto (tg := 32) dX3_visitPart_95 (by decide) ?_
        refine ih (sd + 1) (t + 1) _ (up1 q t b) (up1 v b 1) _ (by omega) (by omega) (by omega) ⟨⟨?_, ?_, (j3.up (by decide)).up (by decide), by omega, by omega, j6, by omega, ?_⟩, ?_, ?_, hdist, ?_⟩ ?_
        · intro i j i0 i1 e
          by_cases hi : i = t
          · rw [e, hi, show (0 : Int) + t = t by omega, sp_up_s, up1_s]
          · rw [sp_up_i _ _ _ _ (by omega), up1_n _ _ hi, sp_up_o _ _ _ _ (by decide)]
            exact j1 i j i0 (by omega) e
        · exact (j2.up (i := b) (by omega)).ne (by decide)
        · rw [up1_n _ _ (by omega)]; exact j8
        · intro x x0 x1
          have hx := j9 x x0 x1
          by_cases hxb : x = b
          · subst hxb
            rw [up1_s]
            exact ⟨Or.inr rfl, fun _ => Or.inr ⟨t, by omega, by omega, up1_s _ _ _⟩, fun _ => rfl⟩
          · rw [up1_n _ _ hxb]
            refine ⟨hx.1, hx.2.trans ⟨?_, ?_⟩⟩
            · rintro (e | ⟨i, i0, i1, i2⟩)
              · exact Or.inl e
              · exact Or.inr ⟨i, i0, by omega, by rw [up1_n _ _ (by omega)]; exact i2⟩
            · rintro (e | ⟨i, i0, i1, i2⟩)
              · exact Or.inl e
              · by_cases hi : i = t
                · rw [hi, up1_s] at i2; exact absurd i2.symm hxb
                · rw [up1_n _ _ hi] at i2; exact Or.inr ⟨i, i0, by omega, i2⟩
        · intro i i0 i1
          refine ⟨hrng i i0 i1, ?_⟩
          by_cases hi : i = t
          · rw [hi, up1_s]; exact ⟨hub2, hcnb⟩
          · rw [up1_n _ _ hi]; exact (j10 i i0 (by omega)).2
        · intro i i0 i1 e e0 e1 hie
          rw [up1_n _ _ (by omega)] at hie
          by_cases he : e = b
          · rw [he, up1_s]
          · rw [up1_n _ _ he]; exact j12 i i0 i1 e e0 e1 hie
        · intro x x0 x1 x2
          have e9 : up1 q t b h = q h := up1_n _ _ (by omega)
          rw [e9] at x2 ⊢
          by_cases hx : x = sd
          · rw [hx, hb, up1_s]
          · by_cases hxb : nb (q h) x = b
            · rw [hxb, up1_s]
            · rw [up1_n _ _ hxb]; exact hsd x x0 (by omega) x2
theorem lX3_vis (d : Nat) {y u : Int → Int} {s fr : Int} {g0 : sp_G} {Q : sp_P} (hfr : 0 ≤ fr ∧ fr < 24) (hub : ∀ b, 0 ≤ b → b < 24 → u b = 0 ∨ u b = 1) (huf : u fr = 0) (hus : ∀ b, 0 ≤ b → b < 24 → u b = 0 → y b = s) (hcl : ∀ c e, 0 ≤ c → c < 24 → 0 ≤ e → e < 24 → u c = 1 → y c = s → adj c e → y e = s → u e = 1)
    (hQ : ∀ (g : sp_G) (v : Int → Int), sp_fr [43, 44] g0 g → rH g 44 0 24 v → (∀ b, 0 ≤ b → b < 24 → (v b = 0 ∨ v b = 1) ∧ (v b = 1 ↔ u b = 1 ∨ cn y s fr b)) → Q none g) :
    ∀ (n : Nat) (h t : Int) (g : sp_G) (q v : Int → Int) (sx bx : Option sp_V), h + n = 24 → vJ y u s fr g0 g q v h t → sp_AW mX3_visitPart (d + 1) 18 [some (v_r 39), some (v_i fr), some (v_i t), some (v_i h), sx, bx] [] g Q := by
  have fin : ∀ (h t : Int) (g : sp_G) (q v : Int → Int), t ≤ h → vJ y u s fr g0 g q v h t → Q none g := by
    intro h t g q v hth hJ
    obtain ⟨⟨j1, j2, j3, j4, j5, j6, j7, j8⟩, j9, j10, j11, j12⟩ := hJ
    refine hQ g v j3 j2 (fun b b0 b1 => ⟨(j9 b b0 b1).1, (j9 b b0 b1).2.trans ⟨?_, ?_⟩⟩)
    · rintro (e | ⟨i, i0, i1, i2⟩)
      · exact Or.inl e
      · rw [← i2]; exact Or.inr (j10 i i0 i1).2.2
    · rintro (e | e)
      · exact Or.inl e
      · have hv : y b = s ∧ v b = 1 := by
          refine e (fun x => y x = s ∧ v x = 1) ⟨hus fr hfr.1 hfr.2 huf, (j9 fr hfr.1 hfr.2).2.mpr (Or.inr ⟨0, by omega, by omega, j8⟩)⟩ (fun c e c0 c1 e0 e1 hc hce he => ⟨he, ?_⟩)
          rcases (j9 c c0 c1).2.mp hc.2 with k | ⟨i, i0, i1, i2⟩
          · exact (j9 e e0 e1).2.mpr (Or.inl (hcl c e c0 c1 e0 e1 k hc.1 hce he))
          · rw [← i2] at hce
            exact j12 i i0 (by omega) e e0 e1 hce
        exact (j9 b b0 b1).2.mp hv.2
  intro n
  induction n with
  | zero =>
    intro h t g q v sx bx hn hJ
    have hJ0 := hJ
    obtain ⟨⟨j1, j2, j3, j4, j5, j6, j7, j8⟩, -⟩ := hJ
    refine aw_iload_n dX3_visitPart_18 rfl ?_
    refine aw_iload_n dX3_visitPart_19 rfl ?_
    refine aw_icmp_ge (tg := 104) dX3_visitPart_20 (by decide) (by omega) (fun h20 => ?_) (fun h20 => absurd h20 (by omega))
    refine aw_vret dX3_visitPart_104 rfl ?_
    exact fin h t g q v (by omega) hJ0
  | succ n ih =>
    intro h t g q v sx bx hn hJ
    have hJ0 := hJ
    obtain ⟨⟨j1, j2, j3, j4, j5, j6, j7, j8⟩, -⟩ := hJ
    refine aw_iload_n dX3_visitPart_18 rfl ?_
    refine aw_iload_n dX3_visitPart_19 rfl ?_
    refine aw_icmp_ge (tg := 104) dX3_visitPart_20 (by decide) (by omega) (fun h20 => ?_) (fun h20 => ?_)
    · refine aw_vret dX3_visitPart_104 rfl ?_
      exact fin h t g q v (by omega) hJ0
    · refine aw_iload_n dX3_visitPart_23 rfl ?_
      refine aw_bipush dX3_visitPart_24 (by decide) ?_
      refine aw_icmp_ge (tg := 104) dX3_visitPart_26 (by decide) (by omega) (fun h26 => absurd h26 (by omega)) (fun h26 => ?_)
      refine aw_iconst dX3_visitPart_29 ?_
      refine aw_istore (L2 := [_, _, _, _, _, _]) dX3_visitPart_30 (by decide) rfl rfl ?_
      refine lX3_vis_in d hfr hub huf hus hcl (fun g q v t sx bx hJ => ?_) 4 0 t g q v _ (by omega) (by omega) (by omega) hJ0 (fun x x0 x1 => by omega)
      refine aw_iinc (L2 := [_, _, _, _, _, _]) dX3_visitPart_98 rfl (by decide) rfl rfl ?_
      refine aw_goto (tg := 18) dX3_visitPart_101 (by decide) ?_
      exact ih (h + 1) t g q v _ _ (by omega) hJ
theorem tX3_visitPart (d : Nat) {y u : Int → Int} {s fr : Int} {g : sp_G} {Q : sp_P} (hfr : 0 ≤ fr ∧ fr < 24) (hub : ∀ b, 0 ≤ b → b < 24 → u b = 0 ∨ u b = 1) (huf : u fr = 0) (hus : ∀ b, 0 ≤ b → b < 24 → u b = 0 → y b = s) (hcl : ∀ c e, 0 ≤ c → c < 24 → 0 ≤ e → e < 24 → u c = 1 → y c = s → adj c e → y e = s → u e = 1) (hu : rH g 44 0 24 u) (hQ : ∀ (g2 : sp_G) (v : Int → Int), sp_fr [43, 44] g g2 → rH g2 44 0 24 v → (∀ b, 0 ≤ b → b < 24 → (v b = 0 ∨ v b = 1) ∧ (v b = 1 ↔ u b = 1 ∨ cn y s fr b)) → Q none g2) : sp_Met (d + 1) mX3_visitPart [v_r 39, v_i fr] g Q := by
  refine sp_of (L := [_, _, _, _, _, _]) (by decide) (Nat.le_of_ble_eq_true rfl) rfl rfl ?_
  refine aw_iconst dX3_visitPart_0 ?_
  refine aw_istore_n (L2 := [_, _, _, _, _, _]) dX3_visitPart_1 (by decide) rfl rfl ?_
  refine aw_aload_n dX3_visitPart_2 rfl ?_
  refine aw_getR dX3_visitPart_3 flX3_21 rfl rfl ?_
  refine aw_iconst dX3_visitPart_6 ?_
  refine aw_iload_n dX3_visitPart_7 rfl ?_
  refine aw_iast dX3_visitPart_8 rfl (by omega) ?_
  refine aw_aload_n dX3_visitPart_9 rfl ?_
  refine aw_getR dX3_visitPart_10 flX3_24 rfl rfl ?_
  refine aw_iload_n dX3_visitPart_13 rfl ?_
  refine aw_iconst dX3_visitPart_14 ?_
  refine aw_zast dX3_visitPart_15 rfl (by omega) (by omega) ?_
  refine aw_iconst dX3_visitPart_16 ?_
  refine aw_istore_n (L2 := [_, _, _, _, _, _]) dX3_visitPart_17 (by decide) rfl rfl ?_
  refine lX3_vis d hfr hub huf hus hcl hQ 24 0 1 _ (fun _ => fr) (up1 u fr 1) _ _ (by omega) ⟨⟨?_, (hu.ne (by decide)).up (i := fr) (by omega), (sp_fr.rf.up (by decide)).up (by decide), by omega, by omega, by omega, by omega, rfl⟩, ?_, ?_, ?_, ?_⟩
  · intro i j i0 i1 e
    rw [sp_up_o _ _ _ _ (by decide), show j = 0 by omega, sp_up_s]
  · intro b b0 b1
    by_cases hb : b = fr
    · subst hb
      rw [up1_s]
      exact ⟨Or.inr rfl, fun _ => Or.inr ⟨0, by omega, by omega, rfl⟩, fun _ => rfl⟩
    · rw [up1_n _ _ hb]
      refine ⟨hub b b0 b1, Or.inl, ?_⟩
      rintro (e | ⟨i, i0, i1, i2⟩)
      · exact e
      · exact absurd i2.symm hb
  · intro i i0 i1
    exact ⟨hfr, huf, cn_rf⟩
  · intro i j i0 i1 j0 j1 e
    omega
  · intro i i0 i1
    omega
theorem lX3_parts2 (d : Nat) {y : Int → Int} {s : Int} {g0 : sp_G} {Q : sp_P} (hy : rH g0 41 0 24 y) (hyb : ∀ a, 0 ≤ a → a < 24 → 0 ≤ y a ∧ y a < 24) (hs : 0 ≤ s ∧ s < 24)
    (hQ : ∀ g : sp_G, sp_fr [43, 44] g0 g → Q (some (v_i (pt y s))) g) :
    ∀ (n : Nat) (a parts : Int) (g : sp_G) (v : Int → Int), 0 ≤ a → a + n = 24 → parts = sI (pP y s) a → sp_fr [43, 44] g0 g → rH g 44 0 24 v → (∀ b, 0 ≤ b → b < 24 → (v b = 0 ∨ v b = 1) ∧ (y b ≠ s → v b = 1)) → sn_I y s a (fun b => y b = s ∧ v b = 1) → sp_AW mX3_partsOf (d + 2) 39 [some (v_r 39), some (v_i s), some (v_i parts), some (v_i a)] [] g Q := by
  intro n
  induction n with
  | zero =>
    intro a parts g v h0 hn ep hf hv hvb hI
    have ea : a = 24 := by omega
    subst ea
    refine aw_iload_n dX3_partsOf_39 rfl ?_
    refine aw_bipush dX3_partsOf_40 (by decide) ?_
    refine aw_icmp_ge (tg := 68) dX3_partsOf_42 (by decide) (by omega) (fun h42 => ?_) (fun h42 => absurd h42 (by omega))
    refine aw_iload_n dX3_partsOf_68 rfl ?_
    refine aw_iret dX3_partsOf_69 rfl ?_
    rw [ep]
    exact hQ g hf
  | succ n ih =>
    intro a parts g v h0 hn ep hf hv hvb hI
    have e1 := hv a a h0 (by omega) (by omega)
    have b1 := hvb a h0 (by omega)
    have hIa := hI a h0 (by omega)
    refine aw_iload_n dX3_partsOf_39 rfl ?_
    refine aw_bipush dX3_partsOf_40 (by decide) ?_
    refine aw_icmp_ge (tg := 68) dX3_partsOf_42 (by decide) (by omega) (fun h42 => absurd h42 (by omega)) (fun h42 => ?_)
    refine aw_aload_n dX3_partsOf_45 rfl ?_
    refine aw_getR dX3_partsOf_46 flX3_24 rfl rfl ?_
    refine aw_iload_n dX3_partsOf_49 rfl ?_
    refine aw_zald dX3_partsOf_50 rfl (by omega) ?_
    rw [e1]
    refine aw_if_ne (tg := 62) dX3_partsOf_51 (by decide) (by omega) (fun h51 => ?_) (fun h51 => ?_)
    · refine aw_iinc (L2 := [_, _, _, _]) dX3_partsOf_62 rfl (by decide) rfl rfl ?_
      refine aw_goto (tg := 39) dX3_partsOf_65 (by decide) ?_
      have hv1 : v a = 1 := by omega
      have hp0 : pP y s a = 0 := pP_0 (fun q => by
        obtain ⟨c, c0, c1, c2, c3⟩ := hIa.mp ⟨q.1, hv1⟩
        exact q.2 c c0 c1 c2 c3)
      exact ih (a + 1) _ g v (by omega) (by omega) (by rw [sI_s _ h0, hp0, ep]; omega) hf hv hvb (sn_old hI (fun q => hIa.mp ⟨q, hv1⟩))
    · refine aw_iinc (L2 := [_, _, _, _]) dX3_partsOf_54 rfl (by decide) rfl rfl ?_
      refine aw_aload_n dX3_partsOf_57 rfl ?_
      refine aw_iload_n dX3_partsOf_58 rfl ?_
      refine aw_V1 dX3_partsOf_59 okX3_visitPart lkX3_49 rfl rfl rfl ?_
      have hya : y a = s := Classical.byContradiction fun q => by have := b1.2 q; omega
      refine tX3_visitPart d (y := y) (u := v) (s := s) (by omega) (fun b b0 b1 => (hvb b b0 b1).1) h51 (fun b b0 b1 e => Classical.byContradiction fun q => by have := (hvb b b0 b1).2 q; omega) (fun c e c0 c1 e0 e1 k k2 k3 k4 => (sn_cl hI ⟨c0, c1⟩ ⟨e0, e1⟩ ⟨k2, k⟩ k3 k4).2) hv ?_
      intro g2 v2 hf2 hv2 hvv
      have hp1 : pP y s a = 1 := pP_1 hya (fun b b0 b1 b2 b3 => by
        have := (hIa.mpr ⟨b, b0, b1, b2, b3⟩).2
        omega)
      refine aw_iinc (L2 := [_, _, _, _]) dX3_partsOf_62 rfl (by decide) rfl rfl ?_
      refine aw_goto (tg := 39) dX3_partsOf_65 (by decide) ?_
      refine ih (a + 1) _ g2 v2 (by omega) (by omega) (by rw [sI_s _ h0, hp1, ep]) (hf.tr hf2 (by decide)) hv2 (fun b b0 b1 => ⟨(hvv b b0 b1).1, fun q => (hvv b b0 b1).2.mpr (Or.inl ((hvb b b0 b1).2 q))⟩) ?_
      refine sn_new hI h0 hya (fun b b0 b1 => ?_)
      show (y b = s ∧ v2 b = 1) ↔ (y b = s ∧ v b = 1) ∨ cn y s a b
      rw [(hvv b b0 b1).2]
      constructor
      · rintro ⟨k1, k2 | k2⟩
        · exact Or.inl ⟨k1, k2⟩
        · exact Or.inr k2
      · rintro (⟨k1, k2⟩ | k2)
        · exact ⟨k1, Or.inl k2⟩
        · exact ⟨cn_y hya k2, Or.inr k2⟩
theorem lX3_parts1 (d : Nat) {y : Int → Int} {s : Int} {g0 : sp_G} {Q : sp_P} (hy : rH g0 41 0 24 y) (hyb : ∀ a, 0 ≤ a → a < 24 → 0 ≤ y a ∧ y a < 24) (hs : 0 ≤ s ∧ s < 24)
    (hQ : ∀ g : sp_G, sp_fr [43, 44] g0 g → Q (some (v_i (pt y s))) g) :
    ∀ (n : Nat) (a : Int) (g : sp_G) (cx : Option sp_V), 0 ≤ a → a + n = 24 → sp_fr [43, 44] g0 g → rH g 44 0 a (fun b => if y b = s then 0 else 1) → sp_AW mX3_partsOf (d + 2) 2 [some (v_r 39), some (v_i s), some (v_i a), cx] [] g Q := by
  intro n
  induction n with
  | zero =>
    intro a g cx h0 hn hf hv
    have ea : a = 24 := by omega
    subst ea
    refine aw_iload_n dX3_partsOf_2 rfl ?_
    refine aw_bipush dX3_partsOf_3 (by decide) ?_
    refine aw_icmp_ge (tg := 35) dX3_partsOf_5 (by decide) (by omega) (fun h5 => ?_) (fun h5 => absurd h5 (by omega))
    refine aw_iconst dX3_partsOf_35 ?_
    refine aw_istore_n (L2 := [_, _, _, _]) dX3_partsOf_36 (by decide) rfl rfl ?_
    refine aw_iconst dX3_partsOf_37 ?_
    refine aw_istore_n (L2 := [_, _, _, _]) dX3_partsOf_38 (by decide) rfl rfl ?_
    refine lX3_parts2 d hy hyb hs hQ 24 0 0 g _ (by omega) (by omega) rfl hf hv (fun b b0 b1 => ⟨?_, fun q => if_neg q⟩) (fun b b0 b1 => ⟨?_, ?_⟩)
    · by_cases q : y b = s
      · exact Or.inl (if_pos q)
      · exact Or.inr (if_neg q)
    · rintro ⟨k1, k2⟩
      rw [if_pos k1] at k2
      omega
    · rintro ⟨c, c0, c1, -⟩
      omega
  | succ n ih =>
    intro a g cx h0 hn hf hv
    have e1 := (hy.fr hf (by decide)) a a h0 (by omega) (by omega)
    have b1 := hyb a h0 (by omega)
    refine aw_iload_n dX3_partsOf_2 rfl ?_
    refine aw_bipush dX3_partsOf_3 (by decide) ?_
    refine aw_icmp_ge (tg := 35) dX3_partsOf_5 (by decide) (by omega) (fun h5 => absurd h5 (by omega)) (fun h5 => ?_)
    refine aw_aload_n dX3_partsOf_8 rfl ?_
    refine aw_getR dX3_partsOf_9 flX3_24 rfl rfl ?_
    refine aw_iload_n dX3_partsOf_12 rfl ?_
    refine aw_aload_n dX3_partsOf_13 rfl ?_
    refine aw_getR dX3_partsOf_14 flX3_15 rfl rfl ?_
    refine aw_iload_n dX3_partsOf_17 rfl ?_
    refine aw_iald dX3_partsOf_18 rfl (by omega) ?_
    rw [e1]
    refine aw_iload_n dX3_partsOf_19 rfl ?_
    refine aw_icmp_eq (tg := 27) dX3_partsOf_20 (by decide) (by omega) (fun h20 => ?_) (fun h20 => ?_)
    · refine aw_iconst dX3_partsOf_27 ?_
      refine aw_zast dX3_partsOf_28 rfl (by omega) (by omega) ?_
      refine aw_iinc (L2 := [_, _, _, _]) dX3_partsOf_29 rfl (by decide) rfl rfl ?_
      refine aw_goto (tg := 2) dX3_partsOf_32 (by decide) ?_
      refine ih (a + 1) _ _ (by omega) (by omega) (hf.up (by decide)) (fun i j i0 i1 e => ?_)
      by_cases hi : i = a
      · rw [e, hi, show (0 : Int) + a = a by omega, sp_up_s]
        show _ = if y a = s then (0 : Int) else 1
        split <;> first | rfl | (exfalso; omega)
      · rw [sp_up_i _ _ _ _ (by omega)]
        exact hv i j i0 (by omega) e
    · refine aw_iconst dX3_partsOf_23 ?_
      refine aw_goto (tg := 28) dX3_partsOf_24 (by decide) ?_
      refine aw_zast dX3_partsOf_28 rfl (by omega) (by omega) ?_
      refine aw_iinc (L2 := [_, _, _, _]) dX3_partsOf_29 rfl (by decide) rfl rfl ?_
      refine aw_goto (tg := 2) dX3_partsOf_32 (by decide) ?_
      refine ih (a + 1) _ _ (by omega) (by omega) (hf.up (by decide)) (fun i j i0 i1 e => ?_)
      by_cases hi : i = a
      · rw [e, hi, show (0 : Int) + a = a by omega, sp_up_s]
        show _ = if y a = s then (0 : Int) else 1
        split <;> first | rfl | (exfalso; omega)
      · rw [sp_up_i _ _ _ _ (by omega)]
        exact hv i j i0 (by omega) e
theorem tX3_partsOf (d : Nat) {y : Int → Int} {s : Int} {g : sp_G} {Q : sp_P} (hy : rH g 41 0 24 y) (hyb : ∀ a, 0 ≤ a → a < 24 → 0 ≤ y a ∧ y a < 24) (hs : 0 ≤ s ∧ s < 24) (hQ : ∀ g2 : sp_G, sp_fr [43, 44] g g2 → Q (some (v_i (pt y s))) g2) : sp_Met (d + 2) mX3_partsOf [v_r 39, v_i s] g Q := by
  refine sp_of (L := [_, _, _, _]) (by decide) (Nat.le_of_ble_eq_true rfl) rfl rfl ?_
  refine aw_iconst dX3_partsOf_0 ?_
  refine aw_istore_n (L2 := [_, _, _, _]) dX3_partsOf_1 (by decide) rfl rfl ?_
  exact lX3_parts1 d hy hyb hs hQ 24 0 g _ (by omega) (by omega) sp_fr.rf (fun i j i0 i1 => by omega)
theorem lX3_most (d : Nat) {y : Int → Int} {c : Int} {g0 : sp_G} {Q : sp_P} (hc : 1 ≤ c ∧ c ≤ 24) (hcc : g0 39 5 = c) (hy : rH g0 41 0 24 y) (hyb : ∀ a, 0 ≤ a → a < 24 → 0 ≤ y a ∧ y a < 24) (hQ : ∀ g : sp_G, sp_fr [43, 44] g0 g → Q (some (v_i (am (fun s => - pt y s) c))) g) :
    ∀ (n : Nat) (s best most : Int) (mm : Option sp_V) (g : sp_G), 1 ≤ s → s + n = c → best = am (fun s => - pt y s) s → most = pt y best → sp_fr [43, 44] g0 g → sp_AW mX3_mostParts (d + 3) 10 [some (v_r 39), some (v_i best), some (v_i most), some (v_i s), mm] [] g Q := by
  intro n
  induction n with
  | zero =>
    intro s best few mm g h0 hn eb ef hf
    have es : s = c := by omega
    subst es
    have hcg : g 39 5 = s := by rw [hf 39 (by decide)]; exact hcc
    refine aw_iload_n dX3_mostParts_10 rfl ?_
    refine aw_aload_n dX3_mostParts_11 rfl ?_
    refine aw_getI (kz := 5) dX3_mostParts_12 flX3_28 rfl rfl rfl ?_
    refine aw_icmp_ge (tg := 42) dX3_mostParts_15 (by decide) (by rw [hcg]; omega) (fun h15 => ?_) (fun h15 => absurd h15 (by rw [hcg]; omega))
    refine aw_iload_n dX3_mostParts_42 rfl ?_
    refine aw_iret dX3_mostParts_43 rfl ?_
    rw [eb]
    exact hQ g hf
  | succ n ih =>
    intro s best most mm g h0 hn eb ef hf
    have hcg : g 39 5 = c := by rw [hf 39 (by decide)]; exact hcc
    have v1 := pt_b y s
    have v2 := pt_b y best
    have hs := am_s (f := fun s => - pt y s) (c := s) (by omega)
    rw [← eb] at hs
    refine aw_iload_n dX3_mostParts_10 rfl ?_
    refine aw_aload_n dX3_mostParts_11 rfl ?_
    refine aw_getI (kz := 5) dX3_mostParts_12 flX3_28 rfl rfl rfl ?_
    refine aw_icmp_ge (tg := 42) dX3_mostParts_15 (by decide) (by rw [hcg]; omega) (fun h15 => absurd h15 (by rw [hcg]; omega)) (fun h15 => ?_)
    refine aw_aload_n dX3_mostParts_18 rfl ?_
    refine aw_iload_n dX3_mostParts_19 rfl ?_
    refine aw_V1 dX3_mostParts_20 okX3_partsOf lkX3_64 rfl rfl rfl ?_
    refine tX3_partsOf d (hy.fr hf (by decide)) hyb (by omega) (fun g2 hf2 => ?_)
    refine aw_istore (L2 := [_, _, _, _, _]) dX3_mostParts_23 (by decide) rfl rfl ?_
    refine aw_iload dX3_mostParts_25 rfl ?_
    refine aw_iload_n dX3_mostParts_27 rfl ?_
    refine aw_icmp_le (tg := 36) dX3_mostParts_28 (by decide) (by omega) (fun h28 => ?_) (fun h28 => ?_)
    · refine aw_iinc (L2 := [_, _, _, _, _]) dX3_mostParts_36 rfl (by decide) rfl rfl ?_
      refine aw_goto (tg := 10) dX3_mostParts_39 (by decide) ?_
      rw [if_neg (by omega)] at hs
      exact ih (s + 1) _ _ _ _ (by omega) (by omega) hs.symm ef (hf.tr hf2 (by decide))
    · refine aw_iload_n dX3_mostParts_31 rfl ?_
      refine aw_istore_n (L2 := [_, _, _, _, _]) dX3_mostParts_32 (by decide) rfl rfl ?_
      refine aw_iload dX3_mostParts_33 rfl ?_
      refine aw_istore_n (L2 := [_, _, _, _, _]) dX3_mostParts_35 (by decide) rfl rfl ?_
      refine aw_iinc (L2 := [_, _, _, _, _]) dX3_mostParts_36 rfl (by decide) rfl rfl ?_
      refine aw_goto (tg := 10) dX3_mostParts_39 (by decide) ?_
      rw [if_pos (by omega)] at hs
      exact ih (s + 1) _ _ _ _ (by omega) (by omega) hs.symm rfl (hf.tr hf2 (by decide))
theorem tX3_mostParts (d : Nat) {y : Int → Int} {c : Int} {g : sp_G} {Q : sp_P} (hc : 1 ≤ c ∧ c ≤ 24) (hcc : g 39 5 = c) (hy : rH g 41 0 24 y) (hyb : ∀ a, 0 ≤ a → a < 24 → 0 ≤ y a ∧ y a < 24) (hQ : ∀ g2 : sp_G, sp_fr [43, 44] g g2 → Q (some (v_i (am (fun s => - pt y s) c))) g2) : sp_Met (d + 3) mX3_mostParts [v_r 39] g Q := by
  refine sp_of (L := [_, _, _, _, _]) (by decide) (Nat.le_of_ble_eq_true rfl) rfl rfl ?_
  refine aw_iconst dX3_mostParts_0 ?_
  refine aw_istore_n (L2 := [_, _, _, _, _]) dX3_mostParts_1 (by decide) rfl rfl ?_
  refine aw_aload_n dX3_mostParts_2 rfl ?_
  refine aw_iconst dX3_mostParts_3 ?_
  refine aw_V1 dX3_mostParts_4 okX3_partsOf lkX3_64 rfl rfl rfl ?_
  refine tX3_partsOf d hy hyb (by omega) (fun g2 hf2 => ?_)
  refine aw_istore_n (L2 := [_, _, _, _, _]) dX3_mostParts_7 (by decide) rfl rfl ?_
  refine aw_iconst dX3_mostParts_8 ?_
  refine aw_istore_n (L2 := [_, _, _, _, _]) dX3_mostParts_9 (by decide) rfl rfl ?_
  exact lX3_most d hc hcc hy hyb hQ (c - 1).toNat 1 0 _ _ _ (by omega) (by omega) (am_1 _).symm rfl hf2
