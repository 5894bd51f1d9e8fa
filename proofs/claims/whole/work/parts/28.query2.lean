/-- a style's paper by a rule -/
def zL (Z : zZ) (R s : Int) : lT := lI (zn Z 0) (zn Z 1) R (zo (zt Z)) (hT (zd (zt Z)) (zm (zt Z)) ((sf (ky (zo (zt Z)) (zd (zt Z))) 24) s)) 4
theorem zL_V {B : Int} {Z : zZ} {R s : Int} (hV : zV B Z) (hR : 0 ≤ R ∧ R ≤ 3) (hs : 0 ≤ s ∧ s < (sc (ky (zo (zt Z)) (zd (zt Z))) 24)) : lV (zn Z 0) (zn Z 1) R (zL Z R s) ∧ l_ct (zL Z R s) ≤ 4 ∧ l_sh (zL Z R s) ≤ 4 ∧ (0 ≤ shs (zL Z R s) ∧ shs (zL Z R s) ≤ 4) := by
  have hf := (st_b (ky (zo (zt Z)) (zd (zt Z)))).2.1 s hs.1 hs.2
  have h := lI_V (C := (zn Z 0)) (D := (zn Z 1)) (R := R) (on := (zo (zt Z))) (ht := hT (zd (zt Z)) (zm (zt Z)) ((sf (ky (zo (zt Z)) (zd (zt Z))) 24) s)) hV.2.2.2.1.1 hV.2.2.2.1.2.1 hR (fun l l0 l1 => by have := hT_b (a := (sf (ky (zo (zt Z)) (zd (zt Z))) 24) s) (l := l) hV.1 hf ⟨l0, l1⟩; omega) (l := 4) (by omega) (by omega)
  have h4 : l_sh (zL Z R s) ≤ 4 := by
    have h5 := h.1.2.2.2.2.1
    have h6 := h.2
    unfold zL
    omega
  refine ⟨h.1, h.2, h4, ?_⟩
  have h7 : 1 ≤ l_sh (zL Z R s) := h.1.2.2.2.1
  unfold shs
  split <;> omega
theorem tX5_sheetsOf (d : Nat) {B : Int} {Z : zZ} {s R : Int} {g : sp_G} {Q : sp_P} (hR : cRep g Z) (hV : zV B Z) (hst : stH g (ky (zo (zt Z)) (zd (zt Z)))) (hs : 0 ≤ s ∧ s < (sc (ky (zo (zt Z)) (zd (zt Z))) 24)) (hRr : 0 ≤ R ∧ R ≤ 3) (hQ : ∀ g2 : sp_G, pFr g g2 → Q (some (v_i (shs (zL Z R s)))) g2) : sp_Met (d + 4) mX5_sheetsOf [v_r 0, v_i s, v_i R] g Q := by
  refine sp_of (L := [_, _, _]) (by decide) (Nat.le_of_ble_eq_true rfl) rfl rfl ?_
  have hf := (st_b (ky (zo (zt Z)) (zd (zt Z)))).2.1 s hs.1 hs.2
  have hb1 := (st_b (ky (zo (zt Z)) (zd (zt Z)))).1
  have hl := zL_V hV hRr hs
  refine aw_aload_n dX5_sheetsOf_0 rfl ?_
  refine aw_getR dX5_sheetsOf_1 flX5_33 rfl rfl ?_
  refine aw_aload_n dX5_sheetsOf_4 rfl ?_
  refine aw_getR dX5_sheetsOf_5 flX5_10 rfl rfl ?_
  refine aw_aload_n dX5_sheetsOf_8 rfl ?_
  refine aw_getR dX5_sheetsOf_9 flX5_26 rfl rfl ?_
  refine aw_getRn dX5_sheetsOf_12 flX5_170 rfl rfl ?_
  refine aw_iload_n dX5_sheetsOf_15 rfl ?_
  refine aw_iald dX5_sheetsOf_16 rfl (by omega) ?_
  rw [hst.2.2 s s hs.1 hs.2 (by omega)]
  refine aw_iload_n dX5_sheetsOf_17 rfl ?_
  refine aw_V3 dX5_sheetsOf_18 okX0_layContests lkX5_207 rfl rfl rfl ?_
  refine tX0_layContests _ hV.1 hf hV.2.2.2.1.1 hV.2.2.2.1.2.1 hRr hR.2.2.2.2.1.1 hR.2.2.2.2.1.2.1 hR.1 (fun g2 hp hlc => ?_)
  obtain ⟨c1, c2, c3, -⟩ := hlc
  have hbr := hl.1.2.2.2.2.2.2.2.2.2
  refine aw_aload_n dX5_sheetsOf_21 rfl ?_
  refine aw_getR dX5_sheetsOf_22 flX5_33 rfl rfl ?_
  refine aw_getIn (kz := 9) dX5_sheetsOf_25 flX5_220 rfl rfl rfl ?_
  rw [c3]
  refine aw_if_eq (tg := 35) dX5_sheetsOf_28 (by decide) (by unfold zL at hbr; omega) (fun h28 => ?_) (fun h28 => ?_)
  · refine aw_aload_n dX5_sheetsOf_35 rfl ?_
    refine aw_getR dX5_sheetsOf_36 flX5_33 rfl rfl ?_
    refine aw_getIn (kz := 7) dX5_sheetsOf_39 flX5_273 rfl rfl rfl ?_
    
    refine aw_iret dX5_sheetsOf_42 rfl ?_
    rw [c1]
    have e := hQ g2 hp
    unfold shs zL at e
    rwa [if_neg (by omega)] at e
  · refine aw_iconst dX5_sheetsOf_31 ?_
    refine aw_goto (tg := 42) dX5_sheetsOf_32 (by decide) ?_
    
    refine aw_iret dX5_sheetsOf_42 rfl ?_
    have e := hQ g2 hp
    unfold shs zL at e
    unfold zL at hbr
    rwa [if_pos (by omega)] at e
/-- sheets of all voters' papers by a rule -/
def zA (Z : zZ) (R : Int) : Int → Int := fun s => vo (sy (ky (zo (zt Z)) (zd (zt Z))) 24) (zp (zt Z)) s * shs (zL Z R s)
def zAll (Z : zZ) (R : Int) : Int := sI (zA Z R) (sc (ky (zo (zt Z)) (zd (zt Z))) 24)
theorem zAll_b {B : Int} {Z : zZ} {R : Int} (hV : zV B Z) (hR : 0 ≤ R ∧ R ≤ 3) : 0 ≤ zAll Z R ∧ zAll Z R ≤ 24 * 9504 := by
  have hb := (st_b (ky (zo (zt Z)) (zd (zt Z)))).1
  have := sI_b (f := zA Z R) (lo := 0) (hi := 9504) (a := (sc (ky (zo (zt Z)) (zd (zt Z))) 24)) (by omega) (fun s s0 s1 => by
    have h1 := vo_b (y := (sy (ky (zo (zt Z)) (zd (zt Z))) 24)) (pe := (zp (zt Z))) s hV.1.1
    have h2 := (zL_V hV hR ⟨s0, s1⟩).2.2.2
    refine ⟨Int.mul_nonneg h1.1 h2.1, ?_⟩
    show vo (sy (ky (zo (zt Z)) (zd (zt Z))) 24) (zp (zt Z)) s * shs (zL Z R s) ≤ 9504
    calc vo (sy (ky (zo (zt Z)) (zd (zt Z))) 24) (zp (zt Z)) s * shs (zL Z R s) ≤ 2376 * shs (zL Z R s) := Int.mul_le_mul_of_nonneg_right h1.2 h2.1
      _ ≤ 9504 := by omega)
  unfold zAll
  omega
theorem stH.fr {g g2 : sp_G} {kk : Int → Int} (h : stH g kk) (hp : pFr g g2) : stH g2 kk := ⟨by rw [hp.1 39 (by decide)]; exact h.1, h.2.1.fr hp.1 (by decide), h.2.2.fr hp.1 (by decide)⟩
theorem lX5_all (d : Nat) {B : Int} {Z : zZ} {R : Int} {g0 : sp_G} {Q : sp_P} (hR : cRep g0 Z) (hV : zV B Z) (hst : stH g0 (ky (zo (zt Z)) (zd (zt Z)))) (hRr : 0 ≤ R ∧ R ≤ 3) (hQ : ∀ g2 : sp_G, pFr g0 g2 → Q (some (v_i (zAll Z R))) g2) :
    ∀ (n : Nat) (s many : Int) (g : sp_G), 0 ≤ s → s + n = (sc (ky (zo (zt Z)) (zd (zt Z))) 24) → many = sI (zA Z R) s → pFr g0 g → sp_AW mX5_sheetsOfAll (d + 5) 4 [some (v_r 0), some (v_i R), some (v_i many), some (v_i s)] [] g Q := by
  have hb := (st_b (ky (zo (zt Z)) (zd (zt Z)))).1
  intro n
  induction n with
  | zero =>
    intro s many g h0 hn em hp
    have es : s = (sc (ky (zo (zt Z)) (zd (zt Z))) 24) := by omega
    have hs := hst.fr hp
    refine aw_iload_n dX5_sheetsOfAll_4 rfl ?_
    refine aw_aload_n dX5_sheetsOfAll_5 rfl ?_
    refine aw_getR dX5_sheetsOfAll_6 flX5_26 rfl rfl ?_
    refine aw_getIn (kz := 5) dX5_sheetsOfAll_9 flX5_148 rfl rfl rfl ?_
    rw [hs.1]
    refine aw_icmp_ge (tg := 43) dX5_sheetsOfAll_12 (by decide) (by omega) (fun h12 => ?_) (fun h12 => absurd h12 (by omega))
    refine aw_iload_n dX5_sheetsOfAll_43 rfl ?_
    refine aw_iret dX5_sheetsOfAll_44 rfl ?_
    have e9 := hQ g hp
    unfold zAll at e9
    rw [em, es]
    exact e9
  | succ n ih =>
    intro s many g h0 hn em hp
    have hs := hst.fr hp
    have r1 := hR.sc (scF.p hp)
    refine aw_iload_n dX5_sheetsOfAll_4 rfl ?_
    refine aw_aload_n dX5_sheetsOfAll_5 rfl ?_
    refine aw_getR dX5_sheetsOfAll_6 flX5_26 rfl rfl ?_
    refine aw_getIn (kz := 5) dX5_sheetsOfAll_9 flX5_148 rfl rfl rfl ?_
    rw [hs.1]
    refine aw_icmp_ge (tg := 43) dX5_sheetsOfAll_12 (by decide) (by omega) (fun h12 => absurd h12 (by omega)) (fun h12 => ?_)
    refine aw_iload_n dX5_sheetsOfAll_15 rfl ?_
    refine aw_aload_n dX5_sheetsOfAll_16 rfl ?_
    refine aw_getR dX5_sheetsOfAll_17 flX5_26 rfl rfl ?_
    refine aw_iload_n dX5_sheetsOfAll_20 rfl ?_
    refine aw_aload_n dX5_sheetsOfAll_21 rfl ?_
    refine aw_getR dX5_sheetsOfAll_22 flX5_10 rfl rfl ?_
    refine aw_V2 dX5_sheetsOfAll_25 okX3_votersOf lkX5_155 rfl rfl rfl ?_
    refine tX3_votersOf _ hs.2.1 (st_b (ky (zo (zt Z)) (zd (zt Z)))).2.2 (by omega) r1.1.1 ?_
    refine aw_aload_n dX5_sheetsOfAll_28 rfl ?_
    refine aw_iload_n dX5_sheetsOfAll_29 rfl ?_
    refine aw_iload_n dX5_sheetsOfAll_30 rfl ?_
    refine aw_V2 dX5_sheetsOfAll_31 okX5_sheetsOf lkX5_204 rfl rfl rfl ?_
    refine tX5_sheetsOf _ r1 hV hs (by omega) hRr (fun g2 hp2 => ?_)
    refine aw_imul dX5_sheetsOfAll_34 ?_
    refine aw_iadd dX5_sheetsOfAll_35 ?_
    refine aw_istore_n (L2 := [_, _, _, _]) dX5_sheetsOfAll_36 (by decide) rfl rfl ?_
    refine aw_iinc (L2 := [_, _, _, _]) dX5_sheetsOfAll_37 rfl (by decide) rfl rfl ?_
    refine aw_goto (tg := 4) dX5_sheetsOfAll_40 (by decide) ?_
    exact ih (s + 1) _ g2 (by omega) (by omega) (by rw [sI_s _ h0, em]; rfl) (hp.tr hp2)
theorem tX5_sheetsOfAll (d : Nat) {B : Int} {Z : zZ} {R : Int} {g : sp_G} {Q : sp_P} (hR : cRep g Z) (hV : zV B Z) (hst : stH g (ky (zo (zt Z)) (zd (zt Z)))) (hRr : 0 ≤ R ∧ R ≤ 3) (hQ : ∀ g2 : sp_G, pFr g g2 → Q (some (v_i (zAll Z R))) g2) : sp_Met (d + 5) mX5_sheetsOfAll [v_r 0, v_i R] g Q := by
  refine sp_of (L := [_, _, _, _]) (by decide) (Nat.le_of_ble_eq_true rfl) rfl rfl ?_
  have hb := (st_b (ky (zo (zt Z)) (zd (zt Z)))).1
  refine aw_iconst dX5_sheetsOfAll_0 ?_
  refine aw_istore_n (L2 := [_, _, _, _]) dX5_sheetsOfAll_1 (by decide) rfl rfl ?_
  refine aw_iconst dX5_sheetsOfAll_2 ?_
  refine aw_istore_n (L2 := [_, _, _, _]) dX5_sheetsOfAll_3 (by decide) rfl rfl ?_
  exact lX5_all d hR hV hst hRr hQ ((sc (ky (zo (zt Z)) (zd (zt Z))) 24)).toNat 0 0 g (by omega) (by omega) rfl pFr.rf
/-- some style is bare -/
def zBr (Z : zZ) : Prop := ∃ s, 0 ≤ s ∧ s < (sc (ky (zo (zt Z)) (zd (zt Z))) 24) ∧ shs (zL Z 0 s) = 0
theorem lX5_bare (d : Nat) {B : Int} {Z : zZ} {g0 : sp_G} {Q : sp_P} (hR : cRep g0 Z) (hV : zV B Z) (hst : stH g0 (ky (zo (zt Z)) (zd (zt Z)))) (hQ1 : zBr Z → ∀ g2 : sp_G, pFr g0 g2 → Q (some (v_i 1)) g2) (hQ0 : ¬ zBr Z → ∀ g2 : sp_G, pFr g0 g2 → Q (some (v_i 0)) g2) :
    ∀ (n : Nat) (s : Int) (g : sp_G), 0 ≤ s → s + n = (sc (ky (zo (zt Z)) (zd (zt Z))) 24) → (∀ t, 0 ≤ t → t < s → shs (zL Z 0 t) ≠ 0) → pFr g0 g → sp_AW mX5_hasBareStyle (d + 5) 2 [some (v_r 0), some (v_i s)] [] g Q := by
  have hb := (st_b (ky (zo (zt Z)) (zd (zt Z)))).1
  intro n
  induction n with
  | zero =>
    intro s g h0 hn hno hp
    have hs := hst.fr hp
    refine aw_iload_n dX5_hasBareStyle_2 rfl ?_
    refine aw_aload_n dX5_hasBareStyle_3 rfl ?_
    refine aw_getR dX5_hasBareStyle_4 flX5_26 rfl rfl ?_
    refine aw_getIn (kz := 5) dX5_hasBareStyle_7 flX5_148 rfl rfl rfl ?_
    rw [hs.1]
    refine aw_icmp_ge (tg := 30) dX5_hasBareStyle_10 (by decide) (by omega) (fun h10 => ?_) (fun h10 => absurd h10 (by omega))
    refine aw_iconst dX5_hasBareStyle_30 ?_
    refine aw_zret dX5_hasBareStyle_31 rfl (by decide) ?_
    exact hQ0 (fun q => by obtain ⟨t, t0, t1, t2⟩ := q; exact hno t t0 (by omega) t2) g hp
  | succ n ih =>
    intro s g h0 hn hno hp
    have hs := hst.fr hp
    have r1 := hR.sc (scF.p hp)
    have hl := (zL_V hV (R := 0) (by omega) ⟨h0, show s < (sc (ky (zo (zt Z)) (zd (zt Z))) 24) by omega⟩).2.2.2
    refine aw_iload_n dX5_hasBareStyle_2 rfl ?_
    refine aw_aload_n dX5_hasBareStyle_3 rfl ?_
    refine aw_getR dX5_hasBareStyle_4 flX5_26 rfl rfl ?_
    refine aw_getIn (kz := 5) dX5_hasBareStyle_7 flX5_148 rfl rfl rfl ?_
    rw [hs.1]
    refine aw_icmp_ge (tg := 30) dX5_hasBareStyle_10 (by decide) (by omega) (fun h10 => absurd h10 (by omega)) (fun h10 => ?_)
    refine aw_aload_n dX5_hasBareStyle_13 rfl ?_
    refine aw_iload_n dX5_hasBareStyle_14 rfl ?_
    refine aw_iconst dX5_hasBareStyle_15 ?_
    refine aw_V2 dX5_hasBareStyle_16 okX5_sheetsOf lkX5_204 rfl rfl rfl ?_
    refine tX5_sheetsOf _ r1 hV hs (by omega) (by omega) (fun g2 hp2 => ?_)
    refine aw_if_ne (tg := 24) dX5_hasBareStyle_19 (by decide) (by omega) (fun h19 => ?_) (fun h19 => ?_)
    · refine aw_iinc (L2 := [_, _]) dX5_hasBareStyle_24 rfl (by decide) rfl rfl ?_
      refine aw_goto (tg := 2) dX5_hasBareStyle_27 (by decide) ?_
      refine ih (s + 1) g2 (by omega) (by omega) (fun t t0 t1 => ?_) (hp.tr hp2)
      by_cases ht : t = s
      · rw [ht]; exact h19
      · exact hno t t0 (by omega)
    · refine aw_iconst dX5_hasBareStyle_22 ?_
      refine aw_zret dX5_hasBareStyle_23 rfl (by decide) ?_
      exact hQ1 ⟨s, h0, by omega, h19⟩ g2 (hp.tr hp2)
theorem tX5_hasBareStyle (d : Nat) {B : Int} {Z : zZ} {g : sp_G} {Q : sp_P} (hR : cRep g Z) (hV : zV B Z) (hst : stH g (ky (zo (zt Z)) (zd (zt Z)))) (hQ1 : zBr Z → ∀ g2 : sp_G, pFr g g2 → Q (some (v_i 1)) g2) (hQ0 : ¬ zBr Z → ∀ g2 : sp_G, pFr g g2 → Q (some (v_i 0)) g2) : sp_Met (d + 5) mX5_hasBareStyle [v_r 0] g Q := by
  refine sp_of (L := [_, _]) (by decide) (Nat.le_of_ble_eq_true rfl) rfl rfl ?_
  have hb := (st_b (ky (zo (zt Z)) (zd (zt Z)))).1
  refine aw_iconst dX5_hasBareStyle_0 ?_
  refine aw_istore_n (L2 := [_, _]) dX5_hasBareStyle_1 (by decide) rfl rfl ?_
  exact lX5_bare d hR hV hst hQ1 hQ0 ((sc (ky (zo (zt Z)) (zd (zt Z))) 24)).toNat 0 g (by omega) (by omega) (fun t t0 t1 => by omega) pFr.rf
theorem qX5_faces (d : Nat) {B : Int} {Z : zZ} {s : Int} {g : sp_G} {Q : sp_P} (hR : cRep g Z) (hV : zV B Z) (hr : (-2147483648 ≤ s ∧ s < 2147483648)) (h1 : (0 ≤ s ∧ s ≤ (sc (ky (zo (zt Z)) (zd (zt Z))) 24) - 1) → ∀ g2 : sp_G, cRep g2 Z → fMo g g2 → Q (some (v_i (shs (zL Z (zn Z 2) s)))) g2) (h2 : ¬ ((0 ≤ s ∧ s ≤ (sc (ky (zo (zt Z)) (zd (zt Z))) 24) - 1)) → ∀ g2 : sp_G, cRep g2 (zr 3 Z) → fMo g g2 → Q (some (v_i (-2))) g2) : sp_Met (d + 8) mX5_faces [v_r 0, v_i s] g Q := by
  refine sp_of (L := [_, _]) (by decide) (Nat.le_of_ble_eq_true rfl) rfl rfl ?_
  refine aw_aload_n dX5_faces_0 rfl ?_
  refine aw_iload_n dX5_faces_1 rfl ?_
  refine aw_V1 dX5_faces_2 okX5_isStyle lkX5_149 rfl rfl rfl ?_
  refine tX5_isStyle _ hR hV (by omega) (fun g1 f1 s1 => ?_)
  have r1 := hR.sc (scF.s f1)
  have m1 := (scF.s f1).m
  have sb := st_b (ky (zo (zt Z)) (zd (zt Z)))
  refine aw_ifne_b (tg := 13) dX5_faces_5 (by decide) (fun h5 => ?_) (fun h5 => ?_)
  · refine aw_aload_n dX5_faces_13 rfl ?_
    refine aw_iload_n dX5_faces_14 rfl ?_
    refine aw_aload_n dX5_faces_15 rfl ?_
    refine aw_getR dX5_faces_16 flX5_33 rfl rfl ?_
    refine aw_getIn (kz := 2) dX5_faces_19 flX5_201 rfl rfl rfl ?_
    rw [show g1 45 2 = zn Z 2 from r1.2.2.2.2.1.2.2]
    refine aw_V2 dX5_faces_22 okX5_sheetsOf lkX5_204 rfl rfl rfl ?_
    refine tX5_sheetsOf _ r1 hV s1 (by omega) hV.2.2.2.1.2.2 (fun g2 hp2 => ?_)
    refine aw_iret dX5_faces_25 rfl ?_
    exact h1 (by omega) g2 (r1.sc (scF.p hp2)) (m1.tr (scF.p hp2).m)
  · refine aw_aload_n dX5_faces_8 rfl ?_
    refine aw_V0 dX5_faces_9 okX5_refuseBad lkX5_62 rfl rfl rfl ?_
    refine zX5_refuseBad _ r1 hV (fun g2 r2 m2 => ?_)
    refine aw_iret dX5_faces_12 rfl ?_
    exact h2 (by omega) g2 r2 (m1.tr m2)
theorem lr_b {C D R on : Int} {ht : Int → Int} : ∀ n : Nat, ∀ k, 0 ≤ k → k < l_ct (lyN C D R on ht n) → 0 ≤ l_lr (lyN C D R on ht n) k ∧ l_lr (lyN C D R on ht n) k < n
  | 0 => fun k k0 k1 => by have k1 : k < 0 := k1; omega
  | n + 1 => by
    intro k k0 k1
    have ih := lr_b (C := C) (D := D) (R := R) (on := on) (ht := ht) n
    rw [lyN] at k1 ⊢
    by_cases q : bt on n = 1
    · rw [if_pos q] at k1 ⊢
      have e1 : l_lr (lS C D R (ht n) n (lyN C D R on ht n)) = up1 (l_lr (lyN C D R on ht n)) (l_ct (lyN C D R on ht n)) n := by
        unfold lS
        split
        · rfl
        · split <;> rfl
      have e2 : l_ct (lS C D R (ht n) n (lyN C D R on ht n)) = l_ct (lyN C D R on ht n) + 1 := by
        unfold lS
        split
        · rfl
        · split <;> rfl
      rw [e2] at k1
      rw [e1]
      by_cases hk : k = l_ct (lyN C D R on ht n)
      · rw [hk, up1_s]; omega
      · rw [up1_n _ _ hk]
        have := ih k k0 (by omega)
        omega
    · rw [if_neg q] at k1 ⊢
      have := ih k k0 k1
      omega
def zct (Z : zZ) (s k what : Int) : Int := if l_ct (zL Z (zn Z 2) s) ≤ k then -1 else if what = 0 then l_lr (zL Z (zn Z 2) s) k else if what = 1 then (zd (zt Z)) (l_lr (zL Z (zn Z 2) s) k * 24 + (sf (ky (zo (zt Z)) (zd (zt Z))) 24) s) else if what = 2 then hT (zd (zt Z)) (zm (zt Z)) ((sf (ky (zo (zt Z)) (zd (zt Z))) 24) s) (l_lr (zL Z (zn Z 2) s) k) else if l_br (zL Z (zn Z 2) s) = 1 then -1 else l_co (zL Z (zn Z 2) s) k
theorem qX5_contest (d : Nat) {B : Int} {Z : zZ} {s k what : Int} {g : sp_G} {Q : sp_P} (hR : cRep g Z) (hV : zV B Z) (hr : ((-2147483648 ≤ s ∧ s < 2147483648)) ∧ ((-2147483648 ≤ k ∧ k < 2147483648)) ∧ ((-2147483648 ≤ what ∧ what < 2147483648))) (h1 : ((0 ≤ s ∧ s ≤ (sc (ky (zo (zt Z)) (zd (zt Z))) 24) - 1) ∧ 0 ≤ k ∧ (0 ≤ what ∧ what ≤ 3)) → ∀ g2 : sp_G, cRep g2 Z → fMo g g2 → Q (some (v_i (zct Z s k what))) g2) (h2 : ¬ (((0 ≤ s ∧ s ≤ (sc (ky (zo (zt Z)) (zd (zt Z))) 24) - 1) ∧ 0 ≤ k ∧ (0 ≤ what ∧ what ≤ 3))) → ∀ g2 : sp_G, cRep g2 (zr 3 Z) → fMo g g2 → Q (some (v_i (-2))) g2) : sp_Met (d + 8) mX5_contest [v_r 0, v_i s, v_i k, v_i what] g Q := by
  refine sp_of (L := [_, _, _, _, _]) (by decide) (Nat.le_of_ble_eq_true rfl) rfl rfl ?_
  refine aw_aload_n dX5_contest_0 rfl ?_
  refine aw_iload_n dX5_contest_1 rfl ?_
  refine aw_V1 dX5_contest_2 okX5_isStyle lkX5_149 rfl rfl rfl ?_
  refine tX5_isStyle _ hR hV (by omega) (fun g1 f1 s1 => ?_)
  have r1 := hR.sc (scF.s f1)
  have m1 := (scF.s f1).m
  have sb := st_b (ky (zo (zt Z)) (zd (zt Z)))
  refine aw_ifeq_b (tg := 21) dX5_contest_5 (by decide) (fun h5 => ?_) (fun h5 => ?_)
  · refine aw_aload_n dX5_contest_21 rfl ?_
    refine aw_V0 dX5_contest_22 okX5_refuseBad lkX5_62 rfl rfl rfl ?_
    refine zX5_refuseBad _ r1 hV (fun g2 r2 m2 => ?_)
    refine aw_iret dX5_contest_25 rfl ?_
    exact h2 (by omega) g2 r2 (m1.tr m2)
  · refine aw_iload_n dX5_contest_8 rfl ?_
    refine aw_if_lt (tg := 21) dX5_contest_9 (by decide) (by omega) (fun h9 => ?_) (fun h9 => ?_)
    · refine aw_aload_n dX5_contest_21 rfl ?_
      refine aw_V0 dX5_contest_22 okX5_refuseBad lkX5_62 rfl rfl rfl ?_
      refine zX5_refuseBad _ r1 hV (fun g2 r2 m2 => ?_)
      refine aw_iret dX5_contest_25 rfl ?_
      exact h2 (by omega) g2 r2 (m1.tr m2)
    · refine aw_iload_n dX5_contest_12 rfl ?_
      refine aw_iconst dX5_contest_13 ?_
      refine aw_iconst dX5_contest_14 ?_
      refine aw_S3 dX5_contest_15 okX5_within lkX5_58 rfl ?_
      refine tX5_within _ (by omega) ?_
      refine aw_ifne_b (tg := 26) dX5_contest_18 (by decide) (fun h18 => ?_) (fun h18 => ?_)
      · refine aw_aload_n dX5_contest_26 rfl ?_
        refine aw_getR dX5_contest_27 flX5_26 rfl rfl ?_
        refine aw_getRn dX5_contest_30 flX5_170 rfl rfl ?_
        refine aw_iload_n dX5_contest_33 rfl ?_
        refine aw_iald dX5_contest_34 rfl (by omega) ?_
        rw [s1.2.2 s s (by omega) (by omega) (by omega)]
        have hf := sb.2.1 s (by omega) (by omega)
        refine aw_istore (L2 := [_, _, _, _, _]) dX5_contest_35 (by decide) rfl rfl ?_
        refine aw_aload_n dX5_contest_37 rfl ?_
        refine aw_getR dX5_contest_38 flX5_33 rfl rfl ?_
        refine aw_aload_n dX5_contest_41 rfl ?_
        refine aw_getR dX5_contest_42 flX5_10 rfl rfl ?_
        refine aw_iload dX5_contest_45 rfl ?_
        refine aw_aload_n dX5_contest_47 rfl ?_
        refine aw_getR dX5_contest_48 flX5_33 rfl rfl ?_
        refine aw_getIn (kz := 2) dX5_contest_51 flX5_201 rfl rfl rfl ?_
        rw [show g1 45 2 = zn Z 2 from r1.2.2.2.2.1.2.2]
        refine aw_V3 dX5_contest_54 okX0_layContests lkX5_207 rfl rfl rfl ?_
        refine tX0_layContests _ hV.1 hf hV.2.2.2.1.1 hV.2.2.2.1.2.1 hV.2.2.2.1.2.2 r1.2.2.2.2.1.1 r1.2.2.2.2.1.2.1 r1.1 (fun g3 hp3 hlc => ?_)
        have hl := zL_V hV hV.2.2.2.1.2.2 (s := s) (by omega)
        have hlc : lC g3 (zn Z 0) (zL Z (zn Z 2) s) := hlc
        have r3 := r1.sc (scF.p hp3)
        have m3 := m1.tr (scF.p hp3).m
        have hct := hl.1.2.2.2.2.2.2.2.2.1
        have hbr := hl.1.2.2.2.2.2.2.2.2.2
        obtain ⟨c1, c2, c3, c4, c5, c6, c7⟩ := hlc
        refine aw_iload_n dX5_contest_57 rfl ?_
        refine aw_aload_n dX5_contest_58 rfl ?_
        refine aw_getR dX5_contest_59 flX5_33 rfl rfl ?_
        refine aw_getIn (kz := 6) dX5_contest_62 flX5_211 rfl rfl rfl ?_
        rw [c4]
        refine aw_icmp_lt (tg := 70) dX5_contest_65 (by decide) (by omega) (fun h65 => ?_) (fun h65 => ?_)
        · refine aw_iload_n dX5_contest_70 rfl ?_
          have hlr := lr_b (C := zn Z 0) (D := zn Z 1) (R := zn Z 2) (on := (zo (zt Z))) (ht := hT (zd (zt Z)) (zm (zt Z)) ((sf (ky (zo (zt Z)) (zd (zt Z))) 24) s)) 4 k (by omega) (by show k < l_ct (zL Z (zn Z 2) s); omega)
          have hlr : 0 ≤ l_lr (zL Z (zn Z 2) s) k ∧ l_lr (zL Z (zn Z 2) s) k < 4 := hlr
          have e6 := c6 k k (by omega) (by omega) (by omega)
          rcases (show what = 0 ∨ what = 1 ∨ what = 2 ∨ what = 3 by omega) with h9 | h9 | h9 | h9
          · subst h9
            refine aw_tin (tg := 96) dX5_contest_71 (by omega) (by omega) rfl (by decide) ?_
            refine aw_aload_n dX5_contest_96 rfl ?_
            refine aw_getR dX5_contest_97 flX5_33 rfl rfl ?_
            refine aw_getRn dX5_contest_100 flX5_214 rfl rfl ?_
            refine aw_iload_n dX5_contest_103 rfl ?_
            refine aw_iald dX5_contest_104 rfl (by omega) ?_
            rw [e6]
            refine aw_iret dX5_contest_105 rfl ?_
            have e9 := h1 (by omega) g3 r3 m3
            unfold zct at e9
            rwa [if_neg (by omega), if_pos (by omega)] at e9
          · subst h9
            refine aw_tin (tg := 106) dX5_contest_71 (by omega) (by omega) rfl (by decide) ?_
            refine aw_aload_n dX5_contest_106 rfl ?_
            refine aw_getR dX5_contest_107 flX5_10 rfl rfl ?_
            refine aw_aload_n dX5_contest_110 rfl ?_
            refine aw_getR dX5_contest_111 flX5_33 rfl rfl ?_
            refine aw_getRn dX5_contest_114 flX5_214 rfl rfl ?_
            refine aw_iload_n dX5_contest_117 rfl ?_
            refine aw_iald dX5_contest_118 rfl (by omega) ?_
            rw [e6]
            refine aw_iload dX5_contest_119 rfl ?_
            refine aw_V2 dX5_contest_121 okX4_districtOf lkX5_123 rfl rfl rfl ?_
            refine tX4_districtOf_d _ r3.1.2.1 (by omega) ?_
            refine aw_iret dX5_contest_124 rfl ?_
            have e9 := h1 (by omega) g3 r3 m3
            unfold zct at e9
            rwa [if_neg (by omega), if_neg (by omega), if_pos (by omega)] at e9
          · subst h9
            refine aw_tin (tg := 125) dX5_contest_71 (by omega) (by omega) rfl (by decide) ?_
            refine aw_aload_n dX5_contest_125 rfl ?_
            refine aw_getR dX5_contest_126 flX5_10 rfl rfl ?_
            refine aw_aload_n dX5_contest_129 rfl ?_
            refine aw_getR dX5_contest_130 flX5_33 rfl rfl ?_
            refine aw_getRn dX5_contest_133 flX5_214 rfl rfl ?_
            refine aw_iload_n dX5_contest_136 rfl ?_
            refine aw_iald dX5_contest_137 rfl (by omega) ?_
            rw [e6]
            refine aw_iload dX5_contest_138 rfl ?_
            refine aw_V2 dX5_contest_140 okX4_heightAt lkX5_217 rfl rfl rfl ?_
            have hd3 : g3 3 (l_lr (zL Z (zn Z 2) s) k * 24 + (sf (ky (zo (zt Z)) (zd (zt Z))) 24) s) = (zd (zt Z)) (l_lr (zL Z (zn Z 2) s) k * 24 + (sf (ky (zo (zt Z)) (zd (zt Z))) 24) s) := r3.1.2.1 (l_lr (zL Z (zn Z 2) s) k * 24 + (sf (ky (zo (zt Z)) (zd (zt Z))) 24) s) _ (by omega) (by omega) (by omega)
            have hhb := hT_b (a := (sf (ky (zo (zt Z)) (zd (zt Z))) 24) s) (l := l_lr (zL Z (zn Z 2) s) k) hV.1 hf hlr
            have hn4 : g3 4 (l_lr (zL Z (zn Z 2) s) k * 6 + (zd (zt Z)) (l_lr (zL Z (zn Z 2) s) k * 24 + (sf (ky (zo (zt Z)) (zd (zt Z))) 24) s)) = (zm (zt Z)) (l_lr (zL Z (zn Z 2) s) k * 6 + (zd (zt Z)) (l_lr (zL Z (zn Z 2) s) k * 24 + (sf (ky (zo (zt Z)) (zd (zt Z))) 24) s)) := r3.1.2.2.1 (l_lr (zL Z (zn Z 2) s) k * 6 + (zd (zt Z)) (l_lr (zL Z (zn Z 2) s) k * 24 + (sf (ky (zo (zt Z)) (zd (zt Z))) 24) s)) _ (by omega) (by omega) (by omega)
            refine tX4_heightAt _ (by omega) (by rw [hd3]; omega) ?_
            rw [hd3, hn4]
            refine aw_iret dX5_contest_143 rfl ?_
            have e9 := h1 (by omega) g3 r3 m3
            unfold zct at e9
            rwa [if_neg (by omega), if_neg (by omega), if_neg (by omega), if_pos (by omega)] at e9
          · subst h9
            refine aw_tout (tg := 144) dX5_contest_71 (by omega) (by omega) (by decide) ?_
            refine aw_aload_n dX5_contest_144 rfl ?_
            refine aw_getR dX5_contest_145 flX5_33 rfl rfl ?_
            refine aw_getIn (kz := 9) dX5_contest_148 flX5_220 rfl rfl rfl ?_
            rw [c3]
            refine aw_if_eq (tg := 158) dX5_contest_151 (by decide) (by omega) (fun j151 => ?_) (fun j151 => ?_)
            · refine aw_aload_n dX5_contest_158 rfl ?_
              refine aw_getR dX5_contest_159 flX5_33 rfl rfl ?_
              refine aw_getRn dX5_contest_162 flX5_224 rfl rfl ?_
              refine aw_iload_n dX5_contest_165 rfl ?_
              refine aw_iald dX5_contest_166 rfl (by omega) ?_
              refine aw_iret dX5_contest_167 rfl ?_
              rw [c7 (by omega) k k (by omega) (by omega) (by omega)]
              have e9 := h1 (by omega) g3 r3 m3
              unfold zct at e9
              rwa [if_neg (by omega), if_neg (by omega), if_neg (by omega), if_neg (by omega), if_neg (by omega)] at e9
            · refine aw_iconst dX5_contest_154 ?_
              refine aw_goto (tg := 167) dX5_contest_155 (by decide) ?_
              refine aw_iret dX5_contest_167 rfl ?_
              have e9 := h1 (by omega) g3 r3 m3
              unfold zct at e9
              rwa [if_neg (by omega), if_neg (by omega), if_neg (by omega), if_neg (by omega), if_pos (by omega)] at e9
        · refine aw_iconst dX5_contest_68 ?_
          refine aw_iret dX5_contest_69 rfl ?_
          have e9 := h1 (by omega) g3 r3 m3
          unfold zct at e9
          rwa [if_pos (by omega)] at e9
      · refine aw_aload_n dX5_contest_21 rfl ?_
        refine aw_V0 dX5_contest_22 okX5_refuseBad lkX5_62 rfl rfl rfl ?_
        refine zX5_refuseBad _ r1 hV (fun g2 r2 m2 => ?_)
        refine aw_iret dX5_contest_25 rfl ?_
        exact h2 (by omega) g2 r2 (m1.tr m2)
def zrm (Z : zZ) (s what : Int) : Int := if what = 1 then zAll Z (zn Z 2) else if l_br (zL Z (zn Z 2) s) = 1 then -1 else sI (l_rm (zL Z (zn Z 2) s)) (l_sh (zL Z (zn Z 2) s) * (zn Z 0))
theorem qX5_room (d : Nat) {B : Int} {Z : zZ} {s what : Int} {g : sp_G} {Q : sp_P} (hR : cRep g Z) (hV : zV B Z) (hr : ((-2147483648 ≤ s ∧ s < 2147483648)) ∧ ((-2147483648 ≤ what ∧ what < 2147483648))) (h1 : ((0 ≤ s ∧ s ≤ (sc (ky (zo (zt Z)) (zd (zt Z))) 24) - 1) ∧ (0 ≤ what ∧ what ≤ 1)) → ∀ g2 : sp_G, cRep g2 Z → fMo g g2 → Q (some (v_i (zrm Z s what))) g2) (h2 : ¬ (((0 ≤ s ∧ s ≤ (sc (ky (zo (zt Z)) (zd (zt Z))) 24) - 1) ∧ (0 ≤ what ∧ what ≤ 1))) → ∀ g2 : sp_G, cRep g2 (zr 3 Z) → fMo g g2 → Q (some (v_i (-2))) g2) : sp_Met (d + 8) mX5_room [v_r 0, v_i s, v_i what] g Q := by
  refine sp_of (L := [_, _, _]) (by decide) (Nat.le_of_ble_eq_true rfl) rfl rfl ?_
  refine aw_aload_n dX5_room_0 rfl ?_
  refine aw_iload_n dX5_room_1 rfl ?_
  refine aw_V1 dX5_room_2 okX5_isStyle lkX5_149 rfl rfl rfl ?_
  refine tX5_isStyle _ hR hV (by omega) (fun g1 f1 s1 => ?_)
  have r1 := hR.sc (scF.s f1)
  have m1 := (scF.s f1).m
  have sb := st_b (ky (zo (zt Z)) (zd (zt Z)))
  refine aw_ifeq_b (tg := 17) dX5_room_5 (by decide) (fun h5 => ?_) (fun h5 => ?_)
  · refine aw_aload_n dX5_room_17 rfl ?_
    refine aw_V0 dX5_room_18 okX5_refuseBad lkX5_62 rfl rfl rfl ?_
    refine zX5_refuseBad _ r1 hV (fun g2 r2 m2 => ?_)
    refine aw_iret dX5_room_21 rfl ?_
    exact h2 (by omega) g2 r2 (m1.tr m2)
  · refine aw_iload_n dX5_room_8 rfl ?_
    refine aw_iconst dX5_room_9 ?_
    refine aw_iconst dX5_room_10 ?_
    refine aw_S3 dX5_room_11 okX5_within lkX5_58 rfl ?_
    refine tX5_within _ (by omega) ?_
    refine aw_ifne_b (tg := 22) dX5_room_14 (by decide) (fun h14 => ?_) (fun h14 => ?_)
    · refine aw_iload_n dX5_room_22 rfl ?_
      refine aw_iconst dX5_room_23 ?_
      refine aw_icmp_ne (tg := 39) dX5_room_24 (by decide) (by omega) (fun h24 => ?_) (fun h24 => ?_)
      · refine aw_aload_n dX5_room_39 rfl ?_
        refine aw_getR dX5_room_40 flX5_33 rfl rfl ?_
        refine aw_aload_n dX5_room_43 rfl ?_
        refine aw_getR dX5_room_44 flX5_10 rfl rfl ?_
        refine aw_aload_n dX5_room_47 rfl ?_
        refine aw_getR dX5_room_48 flX5_26 rfl rfl ?_
        refine aw_getRn dX5_room_51 flX5_170 rfl rfl ?_
        refine aw_iload_n dX5_room_54 rfl ?_
        
        refine aw_iald dX5_room_55 rfl (by omega) ?_
        rw [s1.2.2 s s (by omega) (by omega) (by omega)]
        have hf := sb.2.1 s (by omega) (by omega)
        refine aw_aload_n dX5_room_56 rfl ?_
        refine aw_getR dX5_room_57 flX5_33 rfl rfl ?_
        refine aw_getIn (kz := 2) dX5_room_60 flX5_201 rfl rfl rfl ?_
        rw [show g1 45 2 = zn Z 2 from r1.2.2.2.2.1.2.2]
        refine aw_V3 dX5_room_63 okX0_layContests lkX5_207 rfl rfl rfl ?_
        refine tX0_layContests _ hV.1 hf hV.2.2.2.1.1 hV.2.2.2.1.2.1 hV.2.2.2.1.2.2 r1.2.2.2.2.1.1 r1.2.2.2.2.1.2.1 r1.1 (fun g3 hp3 hlc => ?_)
        have hl := zL_V hV hV.2.2.2.1.2.2 (s := s) (by omega)
        have hlc : lC g3 (zn Z 0) (zL Z (zn Z 2) s) := hlc
        have r3 := r1.sc (scF.p hp3)
        have m3 := m1.tr (scF.p hp3).m
        have hct := hl.1.2.2.2.2.2.2.2.2.1
        have hbr := hl.1.2.2.2.2.2.2.2.2.2
        obtain ⟨c1, c2, c3, c4, c5, c6, c7⟩ := hlc
        refine aw_aload_n dX5_room_66 rfl ?_
        refine aw_getR dX5_room_67 flX5_33 rfl rfl ?_
        refine aw_getIn (kz := 9) dX5_room_70 flX5_220 rfl rfl rfl ?_
        rw [c3]
        refine aw_if_eq (tg := 80) dX5_room_73 (by decide) (by omega) (fun h73 => ?_) (fun h73 => ?_)
        · refine aw_aload_n dX5_room_80 rfl ?_
          refine aw_getR dX5_room_81 flX5_33 rfl rfl ?_
          refine aw_V0 dX5_room_84 okX0_roomLeft lkX5_230 rfl rfl rfl ?_
          have hmul := l_mul (sh := l_sh (zL Z (zn Z 2) s)) hV.2.2.2.1.1 hl.1.2.2.2.1
          refine tX0_roomLeft _ r3.2.2.2.2.1.1 c1 c5 ⟨hmul.2.2.1, hmul.2.1 hl.2.2.1⟩ ?_
          refine aw_iret dX5_room_87 rfl ?_
          have e9 := h1 (by omega) g3 r3 m3
          unfold zrm at e9
          rwa [if_neg (by omega), if_neg (by omega)] at e9
        · refine aw_iconst dX5_room_76 ?_
          refine aw_goto (tg := 87) dX5_room_77 (by decide) ?_
          refine aw_iret dX5_room_87 rfl ?_
          have e9 := h1 (by omega) g3 r3 m3
          unfold zrm at e9
          rwa [if_neg (by omega), if_pos (by omega)] at e9
      · refine aw_aload_n dX5_room_27 rfl ?_
        refine aw_aload_n dX5_room_28 rfl ?_
        refine aw_getR dX5_room_29 flX5_33 rfl rfl ?_
        refine aw_getIn (kz := 2) dX5_room_32 flX5_201 rfl rfl rfl ?_
        rw [show g1 45 2 = zn Z 2 from r1.2.2.2.2.1.2.2]
        refine aw_V1 dX5_room_35 okX5_sheetsOfAll lkX5_227 rfl rfl rfl ?_
        refine tX5_sheetsOfAll _ r1 hV s1 hV.2.2.2.1.2.2 (fun g2 hp2 => ?_)
        refine aw_iret dX5_room_38 rfl ?_
        have e9 := h1 (by omega) g2 (r1.sc (scF.p hp2)) (m1.tr (scF.p hp2).m)
        unfold zrm at e9
        rwa [if_pos (by omega)] at e9
    · refine aw_aload_n dX5_room_17 rfl ?_
      refine aw_V0 dX5_room_18 okX5_refuseBad lkX5_62 rfl rfl rfl ?_
      refine zX5_refuseBad _ r1 hV (fun g2 r2 m2 => ?_)
      refine aw_iret dX5_room_21 rfl ?_
      exact h2 (by omega) g2 r2 (m1.tr m2)
theorem lX5_rule (d : Nat) {B : Int} {Z : zZ} {what : Int} {g0 : sp_G} {Q : sp_P} (hR : cRep g0 Z) (hV : zV B Z) (hst : stH g0 (ky (zo (zt Z)) (zd (zt Z)))) (hw : 0 ≤ what ∧ what ≤ 1) (hQ : ∀ g2 : sp_G, pFr g0 g2 → Q (some (v_i (if what = 0 then am (zAll Z) 4 else zAll Z (am (zAll Z) 4)))) g2) :
    ∀ (n : Nat) (r best few : Int) (mm : Option sp_V) (g : sp_G), 1 ≤ r → r + n = 4 → best = am (zAll Z) r → few = zAll Z best → pFr g0 g → sp_AW mX5_rule (d + 6) 41 [some (v_r 0), some (v_i what), some (v_i best), some (v_i few), some (v_i r), mm] [] g Q := by
  intro n
  induction n with
  | zero =>
    intro r best few mm g h0 hn eb ef hp
    have er : r = 4 := by omega
    subst er
    refine aw_iload dX5_rule_41 rfl ?_
    refine aw_iconst dX5_rule_43 ?_
    refine aw_icmp_ge (tg := 73) dX5_rule_44 (by decide) (by omega) (fun h44 => ?_) (fun h44 => absurd h44 (by omega))
    refine aw_iload_n dX5_rule_73 rfl ?_
    refine aw_if_ne (tg := 81) dX5_rule_74 (by decide) (by omega) (fun h74 => ?_) (fun h74 => ?_)
    · refine aw_iload_n dX5_rule_81 rfl ?_
      refine aw_iret dX5_rule_82 rfl ?_
      have e9 := hQ g hp
      rw [if_neg (by omega)] at e9
      rw [ef, eb]
      exact e9
    · refine aw_iload_n dX5_rule_77 rfl ?_
      refine aw_goto (tg := 82) dX5_rule_78 (by decide) ?_
      refine aw_iret dX5_rule_82 rfl ?_
      have e9 := hQ g hp
      rw [if_pos (by omega)] at e9
      rw [eb]
      exact e9
  | succ n ih =>
    intro r best few mm g h0 hn eb ef hp
    have ab := am_b (f := zAll Z) (c := r) (by omega)
    rw [← eb] at ab
    have v1 := zAll_b hV (R := r) (by omega)
    have v2 := zAll_b hV (R := best) (by omega)
    have hs := am_s (f := zAll Z) (c := r) (by omega)
    rw [← eb] at hs
    have s1 := hst.fr hp
    have r1 := hR.sc (scF.p hp)
    refine aw_iload dX5_rule_41 rfl ?_
    refine aw_iconst dX5_rule_43 ?_
    refine aw_icmp_ge (tg := 73) dX5_rule_44 (by decide) (by omega) (fun h44 => absurd h44 (by omega)) (fun h44 => ?_)
    refine aw_aload_n dX5_rule_47 rfl ?_
    refine aw_iload dX5_rule_48 rfl ?_
    refine aw_V1 dX5_rule_50 okX5_sheetsOfAll lkX5_227 rfl rfl rfl ?_
    refine tX5_sheetsOfAll _ r1 hV s1 (by omega) (fun g2 hp2 => ?_)
    refine aw_istore (L2 := [_, _, _, _, _, _]) dX5_rule_53 (by decide) rfl rfl ?_
    refine aw_iload dX5_rule_55 rfl ?_
    refine aw_iload_n dX5_rule_57 rfl ?_
    refine aw_icmp_ge (tg := 67) dX5_rule_58 (by decide) (by omega) (fun h58 => ?_) (fun h58 => ?_)
    · refine aw_iinc (L2 := [_, _, _, _, _, _]) dX5_rule_67 rfl (by decide) rfl rfl ?_
      refine aw_goto (tg := 41) dX5_rule_70 (by decide) ?_
      rw [if_neg (by omega)] at hs
      exact ih (r + 1) _ _ _ g2 (by omega) (by omega) hs.symm ef (hp.tr hp2)
    · refine aw_iload dX5_rule_61 rfl ?_
      refine aw_istore_n (L2 := [_, _, _, _, _, _]) dX5_rule_63 (by decide) rfl rfl ?_
      refine aw_iload dX5_rule_64 rfl ?_
      refine aw_istore_n (L2 := [_, _, _, _, _, _]) dX5_rule_66 (by decide) rfl rfl ?_
      refine aw_iinc (L2 := [_, _, _, _, _, _]) dX5_rule_67 rfl (by decide) rfl rfl ?_
      refine aw_goto (tg := 41) dX5_rule_70 (by decide) ?_
      rw [if_pos (by omega)] at hs
      exact ih (r + 1) _ _ _ g2 (by omega) (by omega) hs.symm rfl (hp.tr hp2)
theorem qX5_rule (d : Nat) {B : Int} {Z : zZ} {what : Int} {g : sp_G} {Q : sp_P} (hR : cRep g Z) (hV : zV B Z) (hr : (-2147483648 ≤ what ∧ what < 2147483648)) (h1 : (0 ≤ what ∧ what ≤ 1) → ¬ zBr Z → ∀ g2 : sp_G, cRep g2 Z → fMo g g2 → Q (some (v_i (if what = 0 then am (zAll Z) 4 else zAll Z (am (zAll Z) 4)))) g2) (h3 : (0 ≤ what ∧ what ≤ 1) → zBr Z → ∀ g2 : sp_G, cRep g2 (zr 4 Z) → fMo g g2 → Q (some (v_i (-3))) g2) (h2 : ¬ (0 ≤ what ∧ what ≤ 1) → ∀ g2 : sp_G, cRep g2 (zr 3 Z) → fMo g g2 → Q (some (v_i (-2))) g2) : sp_Met (d + 8) mX5_rule [v_r 0, v_i what] g Q := by
  refine sp_of (L := [_, _, _, _, _, _]) (by decide) (Nat.le_of_ble_eq_true rfl) rfl rfl ?_
  refine aw_iload_n dX5_rule_0 rfl ?_
  refine aw_iconst dX5_rule_1 ?_
  refine aw_iconst dX5_rule_2 ?_
  refine aw_S3 dX5_rule_3 okX5_within lkX5_58 rfl ?_
  refine tX5_within _ (by omega) ?_
  refine aw_ifne_b (tg := 14) dX5_rule_6 (by decide) (fun h6 => ?_) (fun h6 => ?_)
  · refine aw_aload_n dX5_rule_14 rfl ?_
    refine aw_V0 dX5_rule_15 okX5_sortStyles lkX5_117 rfl rfl rfl ?_
    refine tX5_sortStyles _ hR hV (fun g1 f1 s1 => ?_)
    have r1 := hR.sc (scF.s f1)
    have m1 := (scF.s f1).m
    have sb := st_b (ky (zo (zt Z)) (zd (zt Z)))
    refine aw_aload_n dX5_rule_18 rfl ?_
    refine aw_V0 dX5_rule_19 okX5_hasBareStyle lkX5_233 rfl rfl rfl ?_
    refine tX5_hasBareStyle _ r1 hV s1 (fun hbr g3 hp3 => ?_) (fun hbr g3 hp3 => ?_)
    · have r3 := r1.sc (scF.p hp3)
      have m3 := m1.tr (scF.p hp3).m
      refine aw_if_eq (tg := 30) dX5_rule_22 (by decide) (by omega) (fun h22 => absurd h22 (by omega)) (fun h22 => ?_)
      refine aw_aload_n dX5_rule_25 rfl ?_
      refine aw_V0 dX5_rule_26 okX5_refuseNo lkX5_106 rfl rfl rfl ?_
      refine zX5_refuseNo _ r3 hV (fun g4 r4 m4 => ?_)
      refine aw_iret dX5_rule_29 rfl ?_
      exact h3 (by omega) hbr g4 r4 (m3.tr m4)
    · have s3 := s1.fr hp3
      have r3 := r1.sc (scF.p hp3)
      have m3 := m1.tr (scF.p hp3).m
      refine aw_if_eq (tg := 30) dX5_rule_22 (by decide) (by omega) (fun h22 => ?_) (fun h22 => absurd h22 (by omega))
      refine aw_iconst dX5_rule_30 ?_
      refine aw_istore_n (L2 := [_, _, _, _, _, _]) dX5_rule_31 (by decide) rfl rfl ?_
      refine aw_aload_n dX5_rule_32 rfl ?_
      refine aw_iconst dX5_rule_33 ?_
      refine aw_V1 dX5_rule_34 okX5_sheetsOfAll lkX5_227 rfl rfl rfl ?_
      refine tX5_sheetsOfAll _ r3 hV s3 (by omega) (fun g5 hp5 => ?_)
      refine aw_istore_n (L2 := [_, _, _, _, _, _]) dX5_rule_37 (by decide) rfl rfl ?_
      refine aw_iconst dX5_rule_38 ?_
      refine aw_istore (L2 := [_, _, _, _, _, _]) dX5_rule_39 (by decide) rfl rfl ?_
      refine lX5_rule _ (r3.sc (scF.p hp5)) hV (s3.fr hp5) (by omega) (fun g6 hp6 => ?_) 3 1 0 _ _ _ (by omega) (by omega) (am_1 _).symm rfl pFr.rf
      exact h1 (by omega) hbr g6 ((r3.sc (scF.p hp5)).sc (scF.p hp6)) ((m3.tr (scF.p hp5).m).tr (scF.p hp6).m)
  · refine aw_aload_n dX5_rule_9 rfl ?_
    refine aw_V0 dX5_rule_10 okX5_refuseBad lkX5_62 rfl rfl rfl ?_
    refine zX5_refuseBad _ hR hV (fun g2 r2 m2 => ?_)
    refine aw_iret dX5_rule_13 rfl ?_
    exact h2 (by omega) g2 r2 m2
