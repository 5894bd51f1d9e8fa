theorem sp_bl_o (c : Prop) [Decidable c] : (sp_bl c = 1 ∧ c) ∨ (sp_bl c = 0 ∧ ¬ c) := by
  by_cases h : c
  · exact Or.inl ⟨if_pos h, h⟩
  · exact Or.inr ⟨if_neg h, h⟩
theorem rX6_paper (d : Nat) {B : Int} {Z : zZ} {what v : Int} {g : sp_G} {Q : sp_P} (hR : mRep g Z) (hV : zV B Z) (hr : ((-2147483648 ≤ what ∧ what < 2147483648)) ∧ ((-2147483648 ≤ v ∧ v < 2147483648))) (h1 : ((what = 0 ∧ 1 ≤ v ∧ v ≤ 3) ∨ (what = 1 ∧ 4 ≤ v ∧ v ≤ 30) ∨ (what = 2 ∧ 0 ≤ v ∧ v ≤ 3)) → ∀ g2 : sp_G, mRep g2 (zq what v Z) → fCo g g2 → Q (some (v_i (zn Z what))) g2) (h2 : ¬ ((what = 0 ∧ 1 ≤ v ∧ v ≤ 3) ∨ (what = 1 ∧ 4 ≤ v ∧ v ≤ 30) ∨ (what = 2 ∧ 0 ≤ v ∧ v ≤ 3)) → ∀ g2 : sp_G, mRep g2 (zr 3 Z) → fCo g g2 → Q (some (v_i (-2))) g2) : sp_Met (d + 8) mX6_paper [v_r 52, v_i what, v_i v] g Q := by
  refine sp_of (L := [_, _, _, _, _]) (by decide) (Nat.le_of_ble_eq_true rfl) rfl rfl ?_
  refine aw_iload_n dX6_paper_0 rfl ?_
  refine aw_if_ne (tg := 13) dX6_paper_1 (by decide) (by omega) (fun j1 => ?_) (fun j1 => ?_)
  · refine aw_iload_n dX6_paper_13 rfl ?_
    refine aw_iconst dX6_paper_14 ?_
    refine aw_icmp_ne (tg := 28) dX6_paper_15 (by decide) (by omega) (fun j15 => ?_) (fun j15 => ?_)
    · refine aw_iload_n dX6_paper_28 rfl ?_
      refine aw_iconst dX6_paper_29 ?_
      refine aw_icmp_ne (tg := 46) dX6_paper_30 (by decide) (by omega) (fun j30 => ?_) (fun j30 => ?_)
      · refine aw_iconst dX6_paper_46 ?_
        refine aw_istore_n (L2 := [_, _, _, _, _]) dX6_paper_47 (by decide) rfl rfl ?_
        refine aw_iload_n dX6_paper_48 rfl ?_
        refine aw_if_ne (tg := 59) dX6_paper_49 (by decide) (by omega) (fun j49 => ?_) (fun j49 => ?_)
        · refine aw_aload_n dX6_paper_59 rfl ?_
          refine aw_getR dX6_paper_60 flX6_16 rfl rfl ?_
          refine aw_iload_n dX6_paper_63 rfl ?_
          refine aw_iald dX6_paper_64 rfl (by omega) ?_
          refine aw_istore (L2 := [_, _, _, _, _]) dX6_paper_65 (by decide) rfl rfl ?_
          refine aw_aload_n dX6_paper_67 rfl ?_
          refine aw_getR dX6_paper_68 flX6_16 rfl rfl ?_
          refine aw_iload_n dX6_paper_71 rfl ?_
          refine aw_iload_n dX6_paper_72 rfl ?_
          refine aw_iast dX6_paper_73 rfl (by omega) ?_
          refine aw_iload dX6_paper_74 rfl ?_
          refine aw_iret dX6_paper_76 rfl ?_
          have e55 : g 55 what = zn Z what := by
            have h3 := hR.2.2.2.1
            rcases (show what = 0 ∨ what = 1 ∨ what = 2 by omega) with q | q | q <;> subst q
            · exact h3.1
            · exact h3.2.1
            · exact h3.2.2
          rw [e55]
          exact h1 (by omega) _ (hR.pap (by omega)) (fCo.rf.up (by decide))
        · refine aw_aload_n dX6_paper_52 rfl ?_
          refine aw_bipush dX6_paper_53 (by decide) ?_
          refine aw_V1 dX6_paper_55 okX6_refuses lkX6_68 rfl rfl rfl ?_
          refine zX6_ref0 _ hR hV (fun g2 r2 c2 => ?_)
          refine aw_iret dX6_paper_58 rfl ?_
          exact h2 (by omega) g2 r2 c2
      · refine aw_iload_n dX6_paper_33 rfl ?_
        refine aw_iconst dX6_paper_34 ?_
        refine aw_iconst dX6_paper_35 ?_
        refine aw_S3 dX6_paper_36 okX6_in lkX6_53 rfl ?_
        refine tX6_in _ (by omega) ?_
        refine aw_ifeq_b (tg := 46) dX6_paper_39 (by decide) (fun j39 => ?_) (fun j39 => ?_)
        · refine aw_iconst dX6_paper_46 ?_
          refine aw_istore_n (L2 := [_, _, _, _, _]) dX6_paper_47 (by decide) rfl rfl ?_
          refine aw_iload_n dX6_paper_48 rfl ?_
          refine aw_if_ne (tg := 59) dX6_paper_49 (by decide) (by omega) (fun j49 => ?_) (fun j49 => ?_)
          · refine aw_aload_n dX6_paper_59 rfl ?_
            refine aw_getR dX6_paper_60 flX6_16 rfl rfl ?_
            refine aw_iload_n dX6_paper_63 rfl ?_
            refine aw_iald dX6_paper_64 rfl (by omega) ?_
            refine aw_istore (L2 := [_, _, _, _, _]) dX6_paper_65 (by decide) rfl rfl ?_
            refine aw_aload_n dX6_paper_67 rfl ?_
            refine aw_getR dX6_paper_68 flX6_16 rfl rfl ?_
            refine aw_iload_n dX6_paper_71 rfl ?_
            refine aw_iload_n dX6_paper_72 rfl ?_
            refine aw_iast dX6_paper_73 rfl (by omega) ?_
            refine aw_iload dX6_paper_74 rfl ?_
            refine aw_iret dX6_paper_76 rfl ?_
            have e55 : g 55 what = zn Z what := by
              have h3 := hR.2.2.2.1
              rcases (show what = 0 ∨ what = 1 ∨ what = 2 by omega) with q | q | q <;> subst q
              · exact h3.1
              · exact h3.2.1
              · exact h3.2.2
            rw [e55]
            exact h1 (by omega) _ (hR.pap (by omega)) (fCo.rf.up (by decide))
          · refine aw_aload_n dX6_paper_52 rfl ?_
            refine aw_bipush dX6_paper_53 (by decide) ?_
            refine aw_V1 dX6_paper_55 okX6_refuses lkX6_68 rfl rfl rfl ?_
            refine zX6_ref0 _ hR hV (fun g2 r2 c2 => ?_)
            refine aw_iret dX6_paper_58 rfl ?_
            exact h2 (by omega) g2 r2 c2
        · refine aw_iconst dX6_paper_42 ?_
          refine aw_goto (tg := 47) dX6_paper_43 (by decide) ?_
          refine aw_istore_n (L2 := [_, _, _, _, _]) dX6_paper_47 (by decide) rfl rfl ?_
          refine aw_iload_n dX6_paper_48 rfl ?_
          refine aw_if_ne (tg := 59) dX6_paper_49 (by decide) (by omega) (fun j49 => ?_) (fun j49 => ?_)
          · refine aw_aload_n dX6_paper_59 rfl ?_
            refine aw_getR dX6_paper_60 flX6_16 rfl rfl ?_
            refine aw_iload_n dX6_paper_63 rfl ?_
            refine aw_iald dX6_paper_64 rfl (by omega) ?_
            refine aw_istore (L2 := [_, _, _, _, _]) dX6_paper_65 (by decide) rfl rfl ?_
            refine aw_aload_n dX6_paper_67 rfl ?_
            refine aw_getR dX6_paper_68 flX6_16 rfl rfl ?_
            refine aw_iload_n dX6_paper_71 rfl ?_
            refine aw_iload_n dX6_paper_72 rfl ?_
            refine aw_iast dX6_paper_73 rfl (by omega) ?_
            refine aw_iload dX6_paper_74 rfl ?_
            refine aw_iret dX6_paper_76 rfl ?_
            have e55 : g 55 what = zn Z what := by
              have h3 := hR.2.2.2.1
              rcases (show what = 0 ∨ what = 1 ∨ what = 2 by omega) with q | q | q <;> subst q
              · exact h3.1
              · exact h3.2.1
              · exact h3.2.2
            rw [e55]
            exact h1 (by omega) _ (hR.pap (by omega)) (fCo.rf.up (by decide))
          · refine aw_aload_n dX6_paper_52 rfl ?_
            refine aw_bipush dX6_paper_53 (by decide) ?_
            refine aw_V1 dX6_paper_55 okX6_refuses lkX6_68 rfl rfl rfl ?_
            refine zX6_ref0 _ hR hV (fun g2 r2 c2 => ?_)
            refine aw_iret dX6_paper_58 rfl ?_
            exact h2 (by omega) g2 r2 c2
    · refine aw_iload_n dX6_paper_18 rfl ?_
      refine aw_iconst dX6_paper_19 ?_
      refine aw_bipush dX6_paper_20 (by decide) ?_
      refine aw_S3 dX6_paper_22 okX6_in lkX6_53 rfl ?_
      refine tX6_in _ (by omega) ?_
      have hb9 := sp_bl_o (4 ≤ v ∧ v ≤ 30)
      generalize sp_bl (4 ≤ v ∧ v ≤ 30) = x9 at *
      refine aw_goto (tg := 47) dX6_paper_25 (by decide) ?_
      refine aw_istore_n (L2 := [_, _, _, _, _]) dX6_paper_47 (by decide) rfl rfl ?_
      refine aw_iload_n dX6_paper_48 rfl ?_
      refine aw_if_ne (tg := 59) dX6_paper_49 (by decide) (by omega) (fun j49 => ?_) (fun j49 => ?_)
      · refine aw_aload_n dX6_paper_59 rfl ?_
        refine aw_getR dX6_paper_60 flX6_16 rfl rfl ?_
        refine aw_iload_n dX6_paper_63 rfl ?_
        refine aw_iald dX6_paper_64 rfl (by omega) ?_
        refine aw_istore (L2 := [_, _, _, _, _]) dX6_paper_65 (by decide) rfl rfl ?_
        refine aw_aload_n dX6_paper_67 rfl ?_
        refine aw_getR dX6_paper_68 flX6_16 rfl rfl ?_
        refine aw_iload_n dX6_paper_71 rfl ?_
        refine aw_iload_n dX6_paper_72 rfl ?_
        refine aw_iast dX6_paper_73 rfl (by omega) ?_
        refine aw_iload dX6_paper_74 rfl ?_
        refine aw_iret dX6_paper_76 rfl ?_
        have e55 : g 55 what = zn Z what := by
          have h3 := hR.2.2.2.1
          rcases (show what = 0 ∨ what = 1 ∨ what = 2 by omega) with q | q | q <;> subst q
          · exact h3.1
          · exact h3.2.1
          · exact h3.2.2
        rw [e55]
        exact h1 (by omega) _ (hR.pap (by omega)) (fCo.rf.up (by decide))
      · refine aw_aload_n dX6_paper_52 rfl ?_
        refine aw_bipush dX6_paper_53 (by decide) ?_
        refine aw_V1 dX6_paper_55 okX6_refuses lkX6_68 rfl rfl rfl ?_
        refine zX6_ref0 _ hR hV (fun g2 r2 c2 => ?_)
        refine aw_iret dX6_paper_58 rfl ?_
        exact h2 (by omega) g2 r2 c2
  · refine aw_iload_n dX6_paper_4 rfl ?_
    refine aw_iconst dX6_paper_5 ?_
    refine aw_iconst dX6_paper_6 ?_
    refine aw_S3 dX6_paper_7 okX6_in lkX6_53 rfl ?_
    refine tX6_in _ (by omega) ?_
    have hb9 := sp_bl_o (1 ≤ v ∧ v ≤ 3)
    generalize sp_bl (1 ≤ v ∧ v ≤ 3) = x9 at *
    refine aw_goto (tg := 47) dX6_paper_10 (by decide) ?_
    refine aw_istore_n (L2 := [_, _, _, _, _]) dX6_paper_47 (by decide) rfl rfl ?_
    refine aw_iload_n dX6_paper_48 rfl ?_
    refine aw_if_ne (tg := 59) dX6_paper_49 (by decide) (by omega) (fun j49 => ?_) (fun j49 => ?_)
    · refine aw_aload_n dX6_paper_59 rfl ?_
      refine aw_getR dX6_paper_60 flX6_16 rfl rfl ?_
      refine aw_iload_n dX6_paper_63 rfl ?_
      refine aw_iald dX6_paper_64 rfl (by omega) ?_
      refine aw_istore (L2 := [_, _, _, _, _]) dX6_paper_65 (by decide) rfl rfl ?_
      refine aw_aload_n dX6_paper_67 rfl ?_
      refine aw_getR dX6_paper_68 flX6_16 rfl rfl ?_
      refine aw_iload_n dX6_paper_71 rfl ?_
      refine aw_iload_n dX6_paper_72 rfl ?_
      refine aw_iast dX6_paper_73 rfl (by omega) ?_
      refine aw_iload dX6_paper_74 rfl ?_
      refine aw_iret dX6_paper_76 rfl ?_
      have e55 : g 55 what = zn Z what := by
        have h3 := hR.2.2.2.1
        rcases (show what = 0 ∨ what = 1 ∨ what = 2 by omega) with q | q | q <;> subst q
        · exact h3.1
        · exact h3.2.1
        · exact h3.2.2
      rw [e55]
      exact h1 (by omega) _ (hR.pap (by omega)) (fCo.rf.up (by decide))
    · refine aw_aload_n dX6_paper_52 rfl ?_
      refine aw_bipush dX6_paper_53 (by decide) ?_
      refine aw_V1 dX6_paper_55 okX6_refuses lkX6_68 rfl rfl rfl ?_
      refine zX6_ref0 _ hR hV (fun g2 r2 c2 => ?_)
      refine aw_iret dX6_paper_58 rfl ?_
      exact h2 (by omega) g2 r2 c2
theorem zX6_prints (d : Nat) {B : Int} {Z : zZ} {s R : Int} {g : sp_G} {Q : sp_P} (hR : mRep g Z) (hV : zV B Z) (hst : stM g (ky (zo (zt Z)) (zd (zt Z)))) (hs : 0 ≤ s ∧ s < (sc (ky (zo (zt Z)) (zd (zt Z))) 24)) (hRr : 0 ≤ R ∧ R ≤ 3) (hQ : ∀ g2 : sp_G, prM g g2 → lM g2 (zn Z 0) (zL Z R s) → (l_br (zL Z R s) = 1 → rH g2 65 0 (l_ct (zL Z R s)) (fun _ => -1)) → Q (some (v_i (shs (zL Z R s)))) g2) : sp_Met (d + 2) mX6_prints [v_r 52, v_i s, v_i R] g Q := by
  have sb := st_b (ky (zo (zt Z)) (zd (zt Z)))
  have hf := sb.2.1 s hs.1 hs.2
  exact tX6_prints d hV.1 hf (by omega) hV.2.2.2.1.1 hV.2.2.2.1.2.1 hRr hR.2.2.2.1.1 hR.2.2.2.1.2.1 hR.di hR.na hR.on (hst.2.2 s s hs.1 hs.2 (by omega)) hQ
theorem shs_0 {B : Int} {Z : zZ} {R s : Int} (hV : zV B Z) (hR : 0 ≤ R ∧ R ≤ 3) (hs : 0 ≤ s ∧ s < (sc (ky (zo (zt Z)) (zd (zt Z))) 24)) : shs (zL Z R s) = 0 ↔ l_br (zL Z R s) = 1 := by
  have h := (zL_V hV hR hs).1.2.2.2.1
  unfold shs
  by_cases q : l_br (zL Z R s) = 1
  · rw [if_pos q]; simp [q]
  · rw [if_neg q]; constructor
    · intro k; omega
    · intro k; exact absurd k q
theorem lyN_br {C D R R2 on : Int} {ht : Int → Int} : ∀ n : Nat, l_br (lyN C D R on ht n) = l_br (lyN C D R2 on ht n)
  | 0 => rfl
  | n + 1 => by
    have ih := lyN_br (C := C) (D := D) (R := R) (R2 := R2) (on := on) (ht := ht) n
    have key : ∀ (R h l : Int) (S : lT), l_br (lS C D R h l S) = if l_br S = 1 ∨ D < h then 1 else 0 := by
      intro R h l S
      unfold lS
      by_cases q : l_br S = 1 ∨ D < h
      · rw [if_pos q, if_pos q]; rfl
      · rw [if_neg q, if_neg q]; split <;> rfl
    rw [lyN, lyN]
    by_cases q : bt on n = 1
    · rw [if_pos q, if_pos q, key, key, ih]
    · rw [if_neg q, if_neg q, ih]
def zBk (Z : zZ) (R k : Int) : Prop := ∃ s, 0 ≤ s ∧ s < k ∧ shs (zL Z R s) = 0
theorem zBk_s {Z : zZ} {R k : Int} (hk : 0 ≤ k) : zBk Z R (k + 1) ↔ zBk Z R k ∨ shs (zL Z R k) = 0 := by
  constructor
  · rintro ⟨s, s0, s1, e⟩
    by_cases q : s = k
    · exact Or.inr (by rw [← q]; exact e)
    · exact Or.inl ⟨s, s0, by omega, e⟩
  · rintro (⟨s, s0, s1, e⟩ | e)
    · exact ⟨s, s0, by omega, e⟩
    · exact ⟨k, hk, by omega, e⟩
theorem zBk_r {B : Int} {Z : zZ} {R : Int} (hV : zV B Z) (hR : 0 ≤ R ∧ R ≤ 3) : zBk Z R (sc (ky (zo (zt Z)) (zd (zt Z))) 24) ↔ zBr Z := by
  have key : ∀ s, 0 ≤ s → s < (sc (ky (zo (zt Z)) (zd (zt Z))) 24) → (shs (zL Z R s) = 0 ↔ shs (zL Z 0 s) = 0) := by
    intro s s0 s1
    rw [shs_0 hV hR ⟨s0, s1⟩, shs_0 hV ⟨by omega, by omega⟩ ⟨s0, s1⟩]
    unfold zL lI
    rw [lyN_br (R2 := 0)]
  constructor
  · rintro ⟨s, s0, s1, e⟩
    exact ⟨s, s0, s1, (key s s0 s1).1 e⟩
  · rintro ⟨s, s0, s1, e⟩
    exact ⟨s, s0, s1, (key s s0 s1).2 e⟩
theorem rX6_faces (d : Nat) {B : Int} {Z : zZ} {s : Int} {g : sp_G} {Q : sp_P} (hR : mRep g Z) (hV : zV B Z) (hr : (-2147483648 ≤ s ∧ s < 2147483648)) (h1 : (0 ≤ s ∧ s ≤ (sc (ky (zo (zt Z)) (zd (zt Z))) 24) - 1) → ∀ g2 : sp_G, mRep g2 Z → fCo g g2 → Q (some (v_i (shs (zL Z (zn Z 2) s)))) g2) (h2 : ¬ ((0 ≤ s ∧ s ≤ (sc (ky (zo (zt Z)) (zd (zt Z))) 24) - 1)) → ∀ g2 : sp_G, mRep g2 (zr 3 Z) → fCo g g2 → Q (some (v_i (-2))) g2) : sp_Met (d + 8) mX6_faces [v_r 52, v_i s] g Q := by
  refine sp_of (L := [_, _]) (by decide) (Nat.le_of_ble_eq_true rfl) rfl rfl ?_
  refine aw_aload_n dX6_faces_0 rfl ?_
  refine aw_iload_n dX6_faces_1 rfl ?_
  refine aw_V1 dX6_faces_2 okX6_isStyle lkX6_161 rfl rfl rfl ?_
  refine zX6_isStyle _ hR hV (by omega) (fun g1 f1 s1 => ?_)
  have r1 := hR.sc f1.sc
  have c1 := f1.sc.c
  have sb := st_b (ky (zo (zt Z)) (zd (zt Z)))
  refine aw_ifeq_b (tg := 22) dX6_faces_5 (by decide) (fun h5 => ?_) (fun h5 => ?_)
  · refine aw_aload_n dX6_faces_22 rfl ?_
    refine aw_bipush dX6_faces_23 (by decide) ?_
    refine aw_V1 dX6_faces_25 okX6_refuses lkX6_68 rfl rfl rfl ?_
    refine zX6_ref0 _ r1 hV (fun g2 r2 c2 => ?_)
    refine aw_iret dX6_faces_28 rfl ?_
    exact h2 (by omega) g2 r2 (c1.tr c2)
  · refine aw_aload_n dX6_faces_8 rfl ?_
    refine aw_iload_n dX6_faces_9 rfl ?_
    refine aw_aload_n dX6_faces_10 rfl ?_
    refine aw_getR dX6_faces_11 flX6_16 rfl rfl ?_
    refine aw_iconst dX6_faces_14 ?_
    refine aw_iald dX6_faces_15 rfl (by omega) ?_
    rw [r1.2.2.2.1.2.2]
    refine aw_V2 dX6_faces_16 okX6_prints lkX6_198 rfl rfl rfl ?_
    refine zX6_prints _ r1 hV s1 (by omega) hV.2.2.2.1.2.2 (fun g3 p3 m3 n3 => ?_)
    refine aw_goto (tg := 28) dX6_faces_19 (by decide) ?_
    refine aw_iret dX6_faces_28 rfl ?_
    exact h1 (by omega) g3 (r1.sc p3.sc) (c1.tr p3.sc.c)
theorem rX6_contest (d : Nat) {B : Int} {Z : zZ} {s k what : Int} {g : sp_G} {Q : sp_P} (hR : mRep g Z) (hV : zV B Z) (hr : ((-2147483648 ≤ s ∧ s < 2147483648)) ∧ ((-2147483648 ≤ k ∧ k < 2147483648)) ∧ ((-2147483648 ≤ what ∧ what < 2147483648))) (h1 : ((0 ≤ s ∧ s ≤ (sc (ky (zo (zt Z)) (zd (zt Z))) 24) - 1) ∧ 0 ≤ k ∧ (0 ≤ what ∧ what ≤ 3)) → ∀ g2 : sp_G, mRep g2 Z → fCo g g2 → Q (some (v_i (zct Z s k what))) g2) (h2 : ¬ (((0 ≤ s ∧ s ≤ (sc (ky (zo (zt Z)) (zd (zt Z))) 24) - 1) ∧ 0 ≤ k ∧ (0 ≤ what ∧ what ≤ 3))) → ∀ g2 : sp_G, mRep g2 (zr 3 Z) → fCo g g2 → Q (some (v_i (-2))) g2) : sp_Met (d + 8) mX6_contest [v_r 52, v_i s, v_i k, v_i what] g Q := by
  refine sp_of (L := [_, _, _, _, _]) (by decide) (Nat.le_of_ble_eq_true rfl) rfl rfl ?_
  refine aw_aload_n dX6_contest_0 rfl ?_
  refine aw_iload_n dX6_contest_1 rfl ?_
  refine aw_V1 dX6_contest_2 okX6_isStyle lkX6_161 rfl rfl rfl ?_
  refine zX6_isStyle _ hR hV (by omega) (fun g1 f1 s1 => ?_)
  have r1 := hR.sc f1.sc
  have c1 := f1.sc.c
  have sb := st_b (ky (zo (zt Z)) (zd (zt Z)))
  refine aw_ifeq_b (tg := 21) dX6_contest_5 (by decide) (fun h5 => ?_) (fun h5 => ?_)
  · refine aw_aload_n dX6_contest_21 rfl ?_
    refine aw_bipush dX6_contest_22 (by decide) ?_
    refine aw_V1 dX6_contest_24 okX6_refuses lkX6_68 rfl rfl rfl ?_
    refine zX6_ref0 _ r1 hV (fun g2 r2 c2 => ?_)
    refine aw_iret dX6_contest_27 rfl ?_
    exact h2 (by omega) g2 r2 (c1.tr c2)
  · refine aw_iload_n dX6_contest_8 rfl ?_
    refine aw_if_lt (tg := 21) dX6_contest_9 (by decide) (by omega) (fun h9 => ?_) (fun h9 => ?_)
    · refine aw_aload_n dX6_contest_21 rfl ?_
      refine aw_bipush dX6_contest_22 (by decide) ?_
      refine aw_V1 dX6_contest_24 okX6_refuses lkX6_68 rfl rfl rfl ?_
      refine zX6_ref0 _ r1 hV (fun g2 r2 c2 => ?_)
      refine aw_iret dX6_contest_27 rfl ?_
      exact h2 (by omega) g2 r2 (c1.tr c2)
    · refine aw_iload_n dX6_contest_12 rfl ?_
      refine aw_iconst dX6_contest_13 ?_
      refine aw_iconst dX6_contest_14 ?_
      refine aw_S3 dX6_contest_15 okX6_in lkX6_53 rfl ?_
      refine tX6_in _ (by omega) ?_
      refine aw_ifne_b (tg := 28) dX6_contest_18 (by decide) (fun h18 => ?_) (fun h18 => ?_)
      · refine aw_aload_n dX6_contest_28 rfl ?_
        refine aw_iload_n dX6_contest_29 rfl ?_
        refine aw_aload_n dX6_contest_30 rfl ?_
        refine aw_getR dX6_contest_31 flX6_16 rfl rfl ?_
        refine aw_iconst dX6_contest_34 ?_
        refine aw_iald dX6_contest_35 rfl (by omega) ?_
        rw [r1.2.2.2.1.2.2]
        refine aw_V2 dX6_contest_36 okX6_prints lkX6_198 rfl rfl rfl ?_
        refine zX6_prints _ r1 hV s1 (by omega) hV.2.2.2.1.2.2 (fun g3 p3 m3 n3 => ?_)
        have hl := zL_V hV hV.2.2.2.1.2.2 (s := s) (by omega)
        have hct := hl.1.2.2.2.2.2.2.2.2.1
        have hbr := hl.1.2.2.2.2.2.2.2.2.2
        have r3 := r1.sc p3.sc
        have c3 := c1.tr p3.sc.c
        have s3 := s1.pr p3
        have hf := sb.2.1 s (by omega) (by omega)
        have ef := s3.2.2 s s (by omega) (by omega) (by omega)
        refine aw_pop dX6_contest_39 rfl ?_
        refine aw_iload_n dX6_contest_40 rfl ?_
        refine aw_aload_n dX6_contest_41 rfl ?_
        refine aw_getI (kz := 17) dX6_contest_42 flX6_185 rfl rfl rfl ?_
        rw [m3.2.1]
        refine aw_icmp_lt (tg := 50) dX6_contest_45 (by decide) (by omega) (fun h45 => ?_) (fun h45 => ?_)
        · refine aw_aload_n dX6_contest_50 rfl ?_
          refine aw_getR dX6_contest_51 flX6_44 rfl rfl ?_
          refine aw_iload_n dX6_contest_54 rfl ?_
          
          refine aw_iald dX6_contest_55 rfl (by omega) ?_
          have hlr := lr_b (C := zn Z 0) (D := zn Z 1) (R := zn Z 2) (on := (zo (zt Z))) (ht := hT (zd (zt Z)) (zm (zt Z)) ((sf (ky (zo (zt Z)) (zd (zt Z))) 24) s)) 4 k (by omega) (by show k < l_ct (zL Z (zn Z 2) s); omega)
          have hlr : 0 ≤ l_lr (zL Z (zn Z 2) s) k ∧ l_lr (zL Z (zn Z 2) s) k < 4 := hlr
          rw [m3.2.2.2.1 k k (by omega) (by omega) (by omega)]
          refine aw_istore (L2 := [_, _, _, _, _]) dX6_contest_56 (by decide) rfl rfl ?_
          refine aw_iload_n dX6_contest_58 rfl ?_
          refine aw_if_ne (tg := 67) dX6_contest_59 (by decide) (by omega) (fun h59 => ?_) (fun h59 => ?_)
          · refine aw_iload_n dX6_contest_67 rfl ?_
            refine aw_iconst dX6_contest_68 ?_
            refine aw_icmp_ne (tg := 87) dX6_contest_69 (by decide) (by omega) (fun h69 => ?_) (fun h69 => ?_)
            · refine aw_iload_n dX6_contest_87 rfl ?_
              refine aw_iconst dX6_contest_88 ?_
              refine aw_icmp_ne (tg := 102) dX6_contest_89 (by decide) (by omega) (fun h89 => ?_) (fun h89 => ?_)
              · refine aw_aload_n dX6_contest_102 rfl ?_
                refine aw_getR dX6_contest_103 flX6_47 rfl rfl ?_
                refine aw_iload_n dX6_contest_106 rfl ?_
                refine aw_iald dX6_contest_107 rfl (by omega) ?_
                refine aw_iret dX6_contest_108 rfl ?_
                have e9 := h1 (by omega) g3 r3 c3
                unfold zct at e9
                rw [if_neg (by omega), if_neg (by omega), if_neg (by omega), if_neg (by omega)] at e9
                by_cases hb9 : l_br (zL Z (zn Z 2) s) = 1
                · rw [if_pos hb9] at e9
                  rw [n3 hb9 k k (by omega) (by omega) (by omega)]
                  exact e9
                · rw [if_neg hb9] at e9
                  rw [m3.2.2.2.2 (by omega) k k (by omega) (by omega) (by omega)]
                  exact e9
              · refine aw_aload_n dX6_contest_92 rfl ?_
                refine aw_iload_n dX6_contest_93 rfl ?_
                refine aw_iload dX6_contest_94 rfl ?_
                refine aw_V2 dX6_contest_96 okX6_heightOf lkX6_191 rfl rfl rfl ?_
                refine tX6_heightOf _ hV.1 r3.di r3.na (by omega) ef hf (by omega) ?_
                refine aw_goto (tg := 108) dX6_contest_99 (by decide) ?_
                refine aw_iret dX6_contest_108 rfl ?_
                have e9 := h1 (by omega) g3 r3 c3
                unfold zct at e9
                rwa [if_neg (by omega), if_neg (by omega), if_neg (by omega), if_pos (by omega)] at e9
            · refine aw_aload_n dX6_contest_72 rfl ?_
              refine aw_iload dX6_contest_73 rfl ?_
              refine aw_aload_n dX6_contest_75 rfl ?_
              refine aw_getR dX6_contest_76 flX6_35 rfl rfl ?_
              refine aw_iload_n dX6_contest_79 rfl ?_
              refine aw_iald dX6_contest_80 rfl (by omega) ?_
              rw [ef]
              refine aw_V2 dX6_contest_81 okX6_district lkX6_79 rfl rfl rfl ?_
              refine tX6_district _ r3.di (by omega) ?_
              refine aw_goto (tg := 108) dX6_contest_84 (by decide) ?_
              refine aw_iret dX6_contest_108 rfl ?_
              have e9 := h1 (by omega) g3 r3 c3
              unfold zct at e9
              rwa [if_neg (by omega), if_neg (by omega), if_pos (by omega)] at e9
          · refine aw_iload dX6_contest_62 rfl ?_
            refine aw_goto (tg := 108) dX6_contest_64 (by decide) ?_
            refine aw_iret dX6_contest_108 rfl ?_
            have e9 := h1 (by omega) g3 r3 c3
            unfold zct at e9
            rwa [if_neg (by omega), if_pos (by omega)] at e9
        · refine aw_iconst dX6_contest_48 ?_
          refine aw_iret dX6_contest_49 rfl ?_
          have e9 := h1 (by omega) g3 r3 c3
          unfold zct at e9
          rwa [if_pos (by omega)] at e9
      · refine aw_aload_n dX6_contest_21 rfl ?_
        refine aw_bipush dX6_contest_22 (by decide) ?_
        refine aw_V1 dX6_contest_24 okX6_refuses lkX6_68 rfl rfl rfl ?_
        refine zX6_ref0 _ r1 hV (fun g2 r2 c2 => ?_)
        refine aw_iret dX6_contest_27 rfl ?_
        exact h2 (by omega) g2 r2 (c1.tr c2)
theorem lX6_facesBy (d : Nat) {B : Int} {Z : zZ} {R may : Int} {g0 : sp_G} {Q : sp_P} (hR : mRep g0 Z) (hV : zV B Z) (hst : stM g0 (ky (zo (zt Z)) (zd (zt Z)))) (hRr : 0 ≤ R ∧ R ≤ 3) (hm : may = 0 ∨ may = 1) (hQ1 : (zBk Z R (sc (ky (zo (zt Z)) (zd (zt Z))) 24) ∧ may = 0) → ∀ g2 : sp_G, prM g0 g2 → Q (some (v_i (-1))) g2) (hQ2 : ¬ (zBk Z R (sc (ky (zo (zt Z)) (zd (zt Z))) 24) ∧ may = 0) → ∀ g2 : sp_G, prM g0 g2 → Q (some (v_i (zAll Z R))) g2) :
    ∀ (n : Nat) (t b k : Int) (x : Option sp_V) (g : sp_G), 0 ≤ k → k + n = (sc (ky (zo (zt Z)) (zd (zt Z))) 24) → t = sI (zA Z R) k → (b = 0 ∨ b = 1) → (b = 1 ↔ zBk Z R k) → prM g0 g → sp_AW mX6_facesBy (d + 3) 8 [some (v_r 52), some (v_i R), some (v_i may), some (v_i t), some (v_i b), some (v_i k), x] [] g Q := by
  have sb := st_b (ky (zo (zt Z)) (zd (zt Z)))
  intro n
  induction n with
  | zero =>
    intro t b k x g h0 hn et hb hbk hp
    have ek : k = (sc (ky (zo (zt Z)) (zd (zt Z))) 24) := by omega
    have s1 := hst.pr hp
    refine aw_iload dX6_facesBy_8 rfl ?_
    refine aw_aload_n dX6_facesBy_10 rfl ?_
    refine aw_getI (kz := 12) dX6_facesBy_11 flX6_152 rfl rfl rfl ?_
    rw [s1.1]
    refine aw_icmp_ge (tg := 61) dX6_facesBy_14 (by decide) (by omega) (fun h14 => ?_) (fun h14 => absurd h14 (by omega))
    refine aw_iload dX6_facesBy_61 rfl ?_
    refine aw_if_eq (tg := 74) dX6_facesBy_63 (by decide) (by omega) (fun h63 => ?_) (fun h63 => ?_)
    · refine aw_iload_n dX6_facesBy_74 rfl ?_
      refine aw_iret dX6_facesBy_75 rfl ?_
      have e9 := hQ2 (fun q => absurd (hbk.2 (by rw [ek]; exact q.1)) (by omega)) g hp
      unfold zAll at e9
      rw [et, ek]
      exact e9
    · refine aw_iload_n dX6_facesBy_66 rfl ?_
      refine aw_if_ne (tg := 74) dX6_facesBy_67 (by decide) (by omega) (fun h67 => ?_) (fun h67 => ?_)
      · refine aw_iload_n dX6_facesBy_74 rfl ?_
        refine aw_iret dX6_facesBy_75 rfl ?_
        have e9 := hQ2 (fun q => absurd q.2 (by omega)) g hp
        unfold zAll at e9
        rw [et, ek]
        exact e9
      · refine aw_iconst dX6_facesBy_70 ?_
        refine aw_goto (tg := 75) dX6_facesBy_71 (by decide) ?_
        refine aw_iret dX6_facesBy_75 rfl ?_
        exact hQ1 ⟨by rw [← ek]; exact hbk.1 (by omega), by omega⟩ g hp
  | succ n ih =>
    intro t b k x g h0 hn et hb hbk hp
    have s1 := hst.pr hp
    have r1 := hR.sc hp.sc
    have hl := (zL_V hV hRr ⟨h0, show k < (sc (ky (zo (zt Z)) (zd (zt Z))) 24) by omega⟩).2.2.2
    have vb := vo_b (y := (sy (ky (zo (zt Z)) (zd (zt Z))) 24)) (pe := (zp (zt Z))) k hV.1.1
    have hsum := sI_s (zA Z R) h0
    have hbs := zBk_s (Z := Z) (R := R) h0
    have tb : 0 ≤ t ∧ t ≤ 24 * 9504 := by
      have := sI_b (f := zA Z R) (lo := 0) (hi := 9504) (a := k) h0 (fun i i0 i1 => by
        have v1 := vo_b (y := (sy (ky (zo (zt Z)) (zd (zt Z))) 24)) (pe := (zp (zt Z))) i hV.1.1
        have v2 := (zL_V hV hRr ⟨i0, show i < (sc (ky (zo (zt Z)) (zd (zt Z))) 24) by omega⟩).2.2.2
        unfold zA
        exact ⟨Int.mul_nonneg v1.1 v2.1, Int.le_trans (Int.mul_le_mul_of_nonneg_left v2.2 v1.1) (by omega)⟩)
      rw [et]
      omega
    have mb : 0 ≤ shs (zL Z R k) * vo (sy (ky (zo (zt Z)) (zd (zt Z))) 24) (zp (zt Z)) k ∧ shs (zL Z R k) * vo (sy (ky (zo (zt Z)) (zd (zt Z))) 24) (zp (zt Z)) k ≤ 9504 := ⟨Int.mul_nonneg hl.1 vb.1, Int.le_trans (Int.mul_le_mul_of_nonneg_left vb.2 hl.1) (by omega)⟩
    have em : zA Z R k = shs (zL Z R k) * vo (sy (ky (zo (zt Z)) (zd (zt Z))) 24) (zp (zt Z)) k := Int.mul_comm _ _
    generalize hS : shs (zL Z R k) = S at *
    generalize hW : vo (sy (ky (zo (zt Z)) (zd (zt Z))) 24) (zp (zt Z)) k = W at *
    refine aw_iload dX6_facesBy_8 rfl ?_
    refine aw_aload_n dX6_facesBy_10 rfl ?_
    refine aw_getI (kz := 12) dX6_facesBy_11 flX6_152 rfl rfl rfl ?_
    rw [s1.1]
    refine aw_icmp_ge (tg := 61) dX6_facesBy_14 (by decide) (by omega) (fun h14 => absurd h14 (by omega)) (fun h14 => ?_)
    refine aw_aload_n dX6_facesBy_17 rfl ?_
    refine aw_iload dX6_facesBy_18 rfl ?_
    refine aw_iload_n dX6_facesBy_20 rfl ?_
    refine aw_V2 dX6_facesBy_21 okX6_prints lkX6_198 rfl rfl rfl ?_
    refine zX6_prints _ r1 hV s1 ⟨h0, by omega⟩ hRr (fun g3 p3 m3 n3 => ?_)
    rw [hS]
    have s3 := s1.pr p3
    refine aw_istore (L2 := [_, _, _, _, _, _, _]) dX6_facesBy_24 (by decide) rfl rfl ?_
    refine aw_iload dX6_facesBy_26 rfl ?_
    refine aw_if_ne (tg := 36) dX6_facesBy_28 (by decide) (by omega) (fun h28 => ?_) (fun h28 => ?_)
    · refine aw_iconst dX6_facesBy_36 ?_
      refine aw_goto (tg := 41) dX6_facesBy_37 (by decide) ?_
      refine aw_istore (L2 := [_, _, _, _, _, _, _]) dX6_facesBy_41 (by decide) rfl rfl ?_
      refine aw_iload_n dX6_facesBy_43 rfl ?_
      refine aw_iload dX6_facesBy_44 rfl ?_
      refine aw_aload_n dX6_facesBy_46 rfl ?_
      refine aw_iload dX6_facesBy_47 rfl ?_
      refine aw_V1 dX6_facesBy_49 okX6_votersOf lkX6_167 rfl rfl rfl ?_
      refine tX6_votersOf _ s3.2.1 sb.2.2 (by omega) (r1.sc p3.sc).pe ?_
      rw [hW]
      refine aw_imul dX6_facesBy_52 ?_
      refine aw_iadd dX6_facesBy_53 ?_
      refine aw_istore_n (L2 := [_, _, _, _, _, _, _]) dX6_facesBy_54 (by decide) rfl rfl ?_
      refine aw_iinc (L2 := [_, _, _, _, _, _, _]) dX6_facesBy_55 rfl (by decide) rfl rfl ?_
      refine aw_goto (tg := 8) dX6_facesBy_58 (by decide) ?_
      exact ih _ 1 (k + 1) _ g3 (by omega) (by omega) (by rw [hsum, em, et]) (by omega) (by rw [hbs, ← hbk]; omega) (hp.tr p3)
    · refine aw_iload dX6_facesBy_31 rfl ?_
      refine aw_if_ne (tg := 40) dX6_facesBy_33 (by decide) (by omega) (fun h33 => ?_) (fun h33 => ?_)
      · refine aw_iconst dX6_facesBy_40 ?_
        refine aw_istore (L2 := [_, _, _, _, _, _, _]) dX6_facesBy_41 (by decide) rfl rfl ?_
        refine aw_iload_n dX6_facesBy_43 rfl ?_
        refine aw_iload dX6_facesBy_44 rfl ?_
        refine aw_aload_n dX6_facesBy_46 rfl ?_
        refine aw_iload dX6_facesBy_47 rfl ?_
        refine aw_V1 dX6_facesBy_49 okX6_votersOf lkX6_167 rfl rfl rfl ?_
        refine tX6_votersOf _ s3.2.1 sb.2.2 (by omega) (r1.sc p3.sc).pe ?_
        rw [hW]
        refine aw_imul dX6_facesBy_52 ?_
        refine aw_iadd dX6_facesBy_53 ?_
        refine aw_istore_n (L2 := [_, _, _, _, _, _, _]) dX6_facesBy_54 (by decide) rfl rfl ?_
        refine aw_iinc (L2 := [_, _, _, _, _, _, _]) dX6_facesBy_55 rfl (by decide) rfl rfl ?_
        refine aw_goto (tg := 8) dX6_facesBy_58 (by decide) ?_
        exact ih _ 0 (k + 1) _ g3 (by omega) (by omega) (by rw [hsum, em, et]) (by omega) (by rw [hbs, ← hbk]; omega) (hp.tr p3)
      · refine aw_iconst dX6_facesBy_36 ?_
        refine aw_goto (tg := 41) dX6_facesBy_37 (by decide) ?_
        refine aw_istore (L2 := [_, _, _, _, _, _, _]) dX6_facesBy_41 (by decide) rfl rfl ?_
        refine aw_iload_n dX6_facesBy_43 rfl ?_
        refine aw_iload dX6_facesBy_44 rfl ?_
        refine aw_aload_n dX6_facesBy_46 rfl ?_
        refine aw_iload dX6_facesBy_47 rfl ?_
        refine aw_V1 dX6_facesBy_49 okX6_votersOf lkX6_167 rfl rfl rfl ?_
        refine tX6_votersOf _ s3.2.1 sb.2.2 (by omega) (r1.sc p3.sc).pe ?_
        rw [hW]
        refine aw_imul dX6_facesBy_52 ?_
        refine aw_iadd dX6_facesBy_53 ?_
        refine aw_istore_n (L2 := [_, _, _, _, _, _, _]) dX6_facesBy_54 (by decide) rfl rfl ?_
        refine aw_iinc (L2 := [_, _, _, _, _, _, _]) dX6_facesBy_55 rfl (by decide) rfl rfl ?_
        refine aw_goto (tg := 8) dX6_facesBy_58 (by decide) ?_
        exact ih _ 1 (k + 1) _ g3 (by omega) (by omega) (by rw [hsum, em, et]) (by omega) (by rw [hbs, ← hbk]; omega) (hp.tr p3)
theorem zX6_facesBy (d : Nat) {B : Int} {Z : zZ} {R may : Int} {g : sp_G} {Q : sp_P} (hR : mRep g Z) (hV : zV B Z) (hst : stM g (ky (zo (zt Z)) (zd (zt Z)))) (hRr : 0 ≤ R ∧ R ≤ 3) (hm : may = 0 ∨ may = 1) (hQ1 : (zBr Z ∧ may = 0) → ∀ g2 : sp_G, prM g g2 → Q (some (v_i (-1))) g2) (hQ2 : ¬ (zBr Z ∧ may = 0) → ∀ g2 : sp_G, prM g g2 → Q (some (v_i (zAll Z R))) g2) : sp_Met (d + 3) mX6_facesBy [v_r 52, v_i R, v_i may] g Q := by
  have sb := st_b (ky (zo (zt Z)) (zd (zt Z)))
  refine sp_of (L := [_, _, _, _, _, _, _]) (by decide) (Nat.le_of_ble_eq_true rfl) rfl rfl ?_
  refine aw_iconst dX6_facesBy_0 ?_
  refine aw_istore_n (L2 := [_, _, _, _, _, _, _]) dX6_facesBy_1 (by decide) rfl rfl ?_
  refine aw_iconst dX6_facesBy_2 ?_
  refine aw_istore (L2 := [_, _, _, _, _, _, _]) dX6_facesBy_3 (by decide) rfl rfl ?_
  refine aw_iconst dX6_facesBy_5 ?_
  refine aw_istore (L2 := [_, _, _, _, _, _, _]) dX6_facesBy_6 (by decide) rfl rfl ?_
  refine lX6_facesBy _ hR hV hst hRr hm (fun q => hQ1 ⟨(zBk_r hV hRr).1 q.1, q.2⟩) (fun q => hQ2 (fun k => q ⟨(zBk_r hV hRr).2 k.1, k.2⟩)) ((sc (ky (zo (zt Z)) (zd (zt Z))) 24)).toNat 0 0 0 _ g (by omega) (by omega) rfl (by omega) ⟨fun k => by omega, ?_⟩ prM.rf
  rintro ⟨s, s0, s1, _⟩
  omega
