/-- the name that leads in a block in a layer -/
def zld (Z : zZ) (l a : Int) : Int := rk (zd (zt Z)) l ((zd (zt Z)) (l * 24 + a)) a % (zm (zt Z)) (l * 6 + (zd (zt Z)) (l * 24 + a))
theorem zld_b {B : Int} {Z : zZ} {l a : Int} (hV : zV B Z) (hl : 0 ≤ l ∧ l ≤ 3) (ha : 0 ≤ a ∧ a ≤ 23) : 0 ≤ zld Z l a ∧ zld Z l a < (zm (zt Z)) (l * 6 + (zd (zt Z)) (l * 24 + a)) ∧ (1 ≤ (zm (zt Z)) (l * 6 + (zd (zt Z)) (l * 24 + a)) ∧ (zm (zt Z)) (l * 6 + (zd (zt Z)) (l * 24 + a)) ≤ 8) ∧ (0 ≤ (zd (zt Z)) (l * 24 + a) ∧ (zd (zt Z)) (l * 24 + a) ≤ 5) := by
  have h1 := hV.1.2.1 (l * 24 + a) (by omega) (by omega)
  have h2 := hV.1.2.2.1 (l * 6 + (zd (zt Z)) (l * 24 + a)) (by omega) (by omega)
  have h3 := Int.emod_nonneg (rk (zd (zt Z)) l ((zd (zt Z)) (l * 24 + a)) a) (show (zm (zt Z)) (l * 6 + (zd (zt Z)) (l * 24 + a)) ≠ 0 by omega)
  have h4 := Int.emod_lt_of_pos (rk (zd (zt Z)) l ((zd (zt Z)) (l * 24 + a)) a) (show 0 < (zm (zt Z)) (l * 6 + (zd (zt Z)) (l * 24 + a)) by omega)
  exact ⟨h3, h4, h2, h1⟩
theorem qX5_leads (d : Nat) {B : Int} {Z : zZ} {a l : Int} {g : sp_G} {Q : sp_P} (hR : cRep g Z) (hV : zV B Z) (hr : ((-2147483648 ≤ a ∧ a < 2147483648)) ∧ ((-2147483648 ≤ l ∧ l < 2147483648))) (h1 : ((0 ≤ a ∧ a ≤ 23) ∧ (0 ≤ l ∧ l ≤ 3)) → ∀ g2 : sp_G, cRep g2 Z → fMo g g2 → Q (some (v_i (if bt (zo (zt Z)) l = 1 then zld Z l a else -1))) g2) (h2 : ¬ (((0 ≤ a ∧ a ≤ 23) ∧ (0 ≤ l ∧ l ≤ 3))) → ∀ g2 : sp_G, cRep g2 (zr 3 Z) → fMo g g2 → Q (some (v_i (-2))) g2) : sp_Met (d + 8) mX5_leads [v_r 0, v_i a, v_i l] g Q := by
  refine sp_of (L := [_, _, _]) (by decide) (Nat.le_of_ble_eq_true rfl) rfl rfl ?_
  refine aw_iload_n dX5_leads_0 rfl ?_
  refine aw_S1 dX5_leads_1 okX5_isBlock lkX5_89 rfl ?_
  refine tX5_isBlock _ (by omega) ?_
  refine aw_ifeq_b (tg := 14) dX5_leads_4 (by decide) (fun h4 => ?_) (fun h4 => ?_)
  · refine aw_aload_n dX5_leads_14 rfl ?_
    refine aw_V0 dX5_leads_15 okX5_refuseBad lkX5_62 rfl rfl rfl ?_
    refine zX5_refuseBad _ hR hV (fun g2 r2 m2 => ?_)
    refine aw_iret dX5_leads_18 rfl ?_
    exact h2 (by omega) g2 r2 m2
  · refine aw_iload_n dX5_leads_7 rfl ?_
    refine aw_S1 dX5_leads_8 okX5_isLayer lkX5_54 rfl ?_
    refine tX5_isLayer _ (by omega) ?_
    refine aw_ifne_b (tg := 19) dX5_leads_11 (by decide) (fun h11 => ?_) (fun h11 => ?_)
    · refine aw_aload_n dX5_leads_19 rfl ?_
      refine aw_getR dX5_leads_20 flX5_10 rfl rfl ?_
      refine aw_iload_n dX5_leads_23 rfl ?_
      refine aw_V1 dX5_leads_24 okX4_isOn lkX5_183 rfl rfl rfl ?_
      have hon : g 1 3 = (zo (zt Z)) := hR.1.2.2.2
      refine tX4_isOn _ (by rw [hon]; exact bt_01 hV.1.2.2.2 (by omega)) ?_
      rw [hon]
      refine aw_ifeq_b (tg := 42) dX5_leads_27 (by decide) (fun h27 => ?_) (fun h27 => ?_)
      · refine aw_iconst dX5_leads_42 ?_
        refine aw_iret dX5_leads_43 rfl ?_
        have e9 := h1 (by omega) g hR fMo.rf
        rwa [if_neg (by omega)] at e9
      · refine aw_aload_n dX5_leads_30 rfl ?_
        refine aw_getR dX5_leads_31 flX5_10 rfl rfl ?_
        refine aw_iload_n dX5_leads_34 rfl ?_
        refine aw_iload_n dX5_leads_35 rfl ?_
        refine aw_V2 dX5_leads_36 okX4_leaderIn lkX5_236 rfl rfl rfl ?_
        refine tX4_leaderIn _ (by omega) (by omega) hV.1 hR.1.2.1 hR.1.2.2.1 ?_
        refine aw_goto (tg := 43) dX5_leads_39 (by decide) ?_
        refine aw_iret dX5_leads_43 rfl ?_
        have e9 := h1 (by omega) g hR fMo.rf
        rwa [if_pos (by omega)] at e9
    · refine aw_aload_n dX5_leads_14 rfl ?_
      refine aw_V0 dX5_leads_15 okX5_refuseBad lkX5_62 rfl rfl rfl ?_
      refine zX5_refuseBad _ hR hV (fun g2 r2 m2 => ?_)
      refine aw_iret dX5_leads_18 rfl ?_
      exact h2 (by omega) g2 r2 m2
def zle (Z : zZ) (l e n : Int) (v : Prop) [Decidable v] : Int := sI (led (zp (zt Z)) (zd (zt Z)) (zm (zt Z)) l e n v) 24
theorem qX5_lead (d : Nat) {B : Int} {Z : zZ} {l e n : Int} {g : sp_G} {Q : sp_P} (hR : cRep g Z) (hV : zV B Z) (hr : ((-2147483648 ≤ l ∧ l < 2147483648)) ∧ ((-2147483648 ≤ e ∧ e < 2147483648)) ∧ ((-2147483648 ≤ n ∧ n < 2147483648))) (h1 : ((0 ≤ l ∧ l ≤ 3) ∧ (0 ≤ e ∧ e ≤ 5) ∧ (0 ≤ n ∧ n ≤ 7)) → ∀ g2 : sp_G, cRep g2 Z → fMo g g2 → Q (some (v_i (if n < (zm (zt Z)) (l * 6 + e) then zle Z l e n True else -1))) g2) (h2 : ¬ (((0 ≤ l ∧ l ≤ 3) ∧ (0 ≤ e ∧ e ≤ 5) ∧ (0 ≤ n ∧ n ≤ 7))) → ∀ g2 : sp_G, cRep g2 (zr 3 Z) → fMo g g2 → Q (some (v_i (-2))) g2) : sp_Met (d + 8) mX5_lead [v_r 0, v_i l, v_i e, v_i n] g Q := by
  refine sp_of (L := [_, _, _, _]) (by decide) (Nat.le_of_ble_eq_true rfl) rfl rfl ?_
  refine aw_iload_n dX5_lead_0 rfl ?_
  refine aw_S1 dX5_lead_1 okX5_isLayer lkX5_54 rfl ?_
  refine tX5_isLayer _ (by omega) ?_
  refine aw_ifeq_b (tg := 21) dX5_lead_4 (by decide) (fun h4 => ?_) (fun h4 => ?_)
  · refine aw_aload_n dX5_lead_21 rfl ?_
    refine aw_V0 dX5_lead_22 okX5_refuseBad lkX5_62 rfl rfl rfl ?_
    refine zX5_refuseBad _ hR hV (fun g2 r2 m2 => ?_)
    refine aw_iret dX5_lead_25 rfl ?_
    exact h2 (by omega) g2 r2 m2
  · refine aw_iload_n dX5_lead_7 rfl ?_
    refine aw_S1 dX5_lead_8 okX5_isDistrict lkX5_74 rfl ?_
    refine tX5_isDistrict _ (by omega) ?_
    refine aw_ifeq_b (tg := 21) dX5_lead_11 (by decide) (fun h11 => ?_) (fun h11 => ?_)
    · refine aw_aload_n dX5_lead_21 rfl ?_
      refine aw_V0 dX5_lead_22 okX5_refuseBad lkX5_62 rfl rfl rfl ?_
      refine zX5_refuseBad _ hR hV (fun g2 r2 m2 => ?_)
      refine aw_iret dX5_lead_25 rfl ?_
      exact h2 (by omega) g2 r2 m2
    · refine aw_iload_n dX5_lead_14 rfl ?_
      refine aw_S1 dX5_lead_15 okX5_isName lkX5_239 rfl ?_
      refine tX5_isName _ (by omega) ?_
      refine aw_ifne_b (tg := 26) dX5_lead_18 (by decide) (fun h18 => ?_) (fun h18 => ?_)
      · refine aw_iload_n dX5_lead_26 rfl ?_
        refine aw_aload_n dX5_lead_27 rfl ?_
        refine aw_getR dX5_lead_28 flX5_10 rfl rfl ?_
        refine aw_iload_n dX5_lead_31 rfl ?_
        refine aw_iload_n dX5_lead_32 rfl ?_
        refine aw_V2 dX5_lead_33 okX4_namesOf lkX5_242 rfl rfl rfl ?_
        refine tX4_namesOf_d _ hR.1.2.2.1 (by omega) ?_
        have nb9 := hV.1.2.2.1 (l * 6 + e) (by omega) (by omega)
        refine aw_icmp_ge (tg := 53) dX5_lead_36 (by decide) (by omega) (fun h36 => ?_) (fun h36 => ?_)
        · refine aw_iconst dX5_lead_53 ?_
          refine aw_iret dX5_lead_54 rfl ?_
          have e9 := h1 (by omega) g hR fMo.rf
          rwa [if_neg (by omega)] at e9
        · refine aw_aload_n dX5_lead_39 rfl ?_
          refine aw_getR dX5_lead_40 flX5_10 rfl rfl ?_
          refine aw_iload_n dX5_lead_43 rfl ?_
          refine aw_iload_n dX5_lead_44 rfl ?_
          refine aw_iload_n dX5_lead_45 rfl ?_
          refine aw_iconst dX5_lead_46 ?_
          refine aw_V4 dX5_lead_47 okX4_ledBy lkX5_245 rfl rfl rfl ?_
          refine tX4_ledBy (v := True) _ (by omega) (by omega) (by omega) hV.1 hR.1.1 hR.1.2.1 hR.1.2.2.1 ?_
          refine aw_goto (tg := 54) dX5_lead_50 (by decide) ?_
          refine aw_iret dX5_lead_54 rfl ?_
          have e9 := h1 (by omega) g hR fMo.rf
          rwa [if_pos (by omega)] at e9
      · refine aw_aload_n dX5_lead_21 rfl ?_
        refine aw_V0 dX5_lead_22 okX5_refuseBad lkX5_62 rfl rfl rfl ?_
        refine zX5_refuseBad _ hR hV (fun g2 r2 m2 => ?_)
        refine aw_iret dX5_lead_25 rfl ?_
        exact h2 (by omega) g2 r2 m2
def mxN (f : Int → Int) : Nat → Int
  | 0 => f 0
  | n + 1 => if mxN f n < f n then f n else mxN f n
def mx (f : Int → Int) (n : Int) : Int := mxN f n.toNat
theorem mx_s {f : Int → Int} {n : Int} (h : 0 ≤ n) : mx f (n + 1) = if mx f n < f n then f n else mx f n := by
  have e : (n + 1).toNat = n.toNat + 1 := by omega
  have e2 : ((n.toNat : Nat) : Int) = n := Int.toNat_of_nonneg h
  unfold mx
  rw [e, mxN, e2]
theorem mx_1 (f : Int → Int) : mx f 1 = f 0 := by
  show (if f 0 < f ((0 : Nat) : Int) then f ((0 : Nat) : Int) else f 0) = f 0
  split <;> rfl
def mnN (f : Int → Int) : Nat → Int
  | 0 => f 0
  | n + 1 => if f n < mnN f n then f n else mnN f n
def mn (f : Int → Int) (n : Int) : Int := mnN f n.toNat
theorem mn_s {f : Int → Int} {n : Int} (h : 0 ≤ n) : mn f (n + 1) = if f n < mn f n then f n else mn f n := by
  have e : (n + 1).toNat = n.toNat + 1 := by omega
  have e2 : ((n.toNat : Nat) : Int) = n := Int.toNat_of_nonneg h
  unfold mn
  rw [e, mnN, e2]
theorem mn_1 (f : Int → Int) : mn f 1 = f 0 := by
  show (if f ((0 : Nat) : Int) < f 0 then f ((0 : Nat) : Int) else f 0) = f 0
  split <;> rfl
theorem mxN_b {f : Int → Int} {b : Int} (h : ∀ i, 0 ≤ f i ∧ f i ≤ b) : ∀ n, 0 ≤ mxN f n ∧ mxN f n ≤ b
  | 0 => h 0
  | n + 1 => by
    have := mxN_b h n
    have := h n
    rw [mxN]
    split <;> omega
theorem mnN_b {f : Int → Int} {b : Int} (h : ∀ i, 0 ≤ f i ∧ f i ≤ b) : ∀ n, 0 ≤ mnN f n ∧ mnN f n ≤ b
  | 0 => h 0
  | n + 1 => by
    have := mnN_b h n
    have := h n
    rw [mnN]
    split <;> omega
theorem zle_b {B : Int} {Z : zZ} {l e n : Int} {v : Prop} [Decidable v] (hV : zV B Z) : 0 ≤ zle Z l e n v ∧ zle Z l e n v ≤ 2376 := by
  have := sI_b (f := led (zp (zt Z)) (zd (zt Z)) (zm (zt Z)) l e n v) (lo := 0) (hi := 99) (a := 24) (by omega) (fun i i0 i1 => by
    have h1 := hV.1.1 i i0 i1
    unfold led
    split
    · split <;> omega
    · omega)
  unfold zle
  omega
theorem lX5_fair (d : Nat) {B : Int} {Z : zZ} {l e what : Int} {v : Prop} [Decidable v] {g : sp_G} {Q : sp_P} (hR : cRep g Z) (hV : zV B Z) (hl : 0 ≤ l ∧ l ≤ 3) (he : 0 ≤ e ∧ e ≤ 5) (hw : (what = 1 ∧ v) ∨ (what = 0 ∧ ¬ v)) (hQ : Q (some (v_i (mx (fun n => zle Z l e n v) ((zm (zt Z)) (l * 6 + e)) - mn (fun n => zle Z l e n v) ((zm (zt Z)) (l * 6 + e))))) g) :
    ∀ (k : Nat) (n most few : Int) (mm : Option sp_V), 1 ≤ n → n + k = (zm (zt Z)) (l * 6 + e) → most = mx (fun n => zle Z l e n v) n → few = mn (fun n => zle Z l e n v) n → sp_AW mX5_fair (d + 3) 57 [some (v_r 0), some (v_i l), some (v_i e), some (v_i what), some (v_i most), some (v_i few), some (v_i n), mm] [] g Q := by
  have hnb := hV.1.2.2.1 (l * 6 + e) (by omega) (by omega)
  have hlb : ∀ i, 0 ≤ (fun n => zle Z l e n v) i ∧ (fun n => zle Z l e n v) i ≤ 2376 := fun i => zle_b hV
  intro k
  induction k with
  | zero =>
    intro n most few mm h0 hn em ef
    have en : n = (zm (zt Z)) (l * 6 + e) := by omega
    refine aw_iload dX5_fair_57 rfl ?_
    refine aw_aload_n dX5_fair_59 rfl ?_
    refine aw_getR dX5_fair_60 flX5_10 rfl rfl ?_
    refine aw_iload_n dX5_fair_63 rfl ?_
    refine aw_iload_n dX5_fair_64 rfl ?_
    refine aw_V2 dX5_fair_65 okX4_namesOf lkX5_242 rfl rfl rfl ?_
    refine tX4_namesOf_d _ hR.1.2.2.1 (by omega) ?_
    refine aw_icmp_ge (tg := 118) dX5_fair_68 (by decide) (by omega) (fun h68 => ?_) (fun h68 => absurd h68 (by omega))
    refine aw_iload dX5_fair_118 rfl ?_
    refine aw_iload dX5_fair_120 rfl ?_
    refine aw_isub dX5_fair_122 ?_
    refine aw_iret dX5_fair_123 rfl ?_
    rw [em, ef, en]
    exact hQ
  | succ k ih =>
    intro n most few mm h0 hn em ef
    have b1 : 0 ≤ most ∧ most ≤ 2376 := by rw [em]; exact mxN_b hlb _
    have b2 : 0 ≤ few ∧ few ≤ 2376 := by rw [ef]; exact mnN_b hlb _
    have b3 : 0 ≤ zle Z l e n v ∧ zle Z l e n v ≤ 2376 := zle_b hV
    have s1 := mx_s (f := fun n => zle Z l e n v) (n := n) (by omega)
    have s2 := mn_s (f := fun n => zle Z l e n v) (n := n) (by omega)
    rw [← em] at s1
    rw [← ef] at s2
    have hled : ∀ (x : Int) (R : sp_P), x = sp_bl v → R (some (v_i (zle Z l e n v))) g → sp_Met (d + 2) mX4_ledBy [v_r 1, v_i l, v_i e, v_i n, v_i x] g R := fun x R ex hR9 => by
      rw [ex]
      exact tX4_ledBy (v := v) _ hl he (by omega) hV.1 hR.1.1 hR.1.2.1 hR.1.2.2.1 hR9
    refine aw_iload dX5_fair_57 rfl ?_
    refine aw_aload_n dX5_fair_59 rfl ?_
    refine aw_getR dX5_fair_60 flX5_10 rfl rfl ?_
    refine aw_iload_n dX5_fair_63 rfl ?_
    refine aw_iload_n dX5_fair_64 rfl ?_
    refine aw_V2 dX5_fair_65 okX4_namesOf lkX5_242 rfl rfl rfl ?_
    refine tX4_namesOf_d _ hR.1.2.2.1 (by omega) ?_
    refine aw_icmp_ge (tg := 118) dX5_fair_68 (by decide) (by omega) (fun h68 => absurd h68 (by omega)) (fun h68 => ?_)
    refine aw_aload_n dX5_fair_71 rfl ?_
    refine aw_getR dX5_fair_72 flX5_10 rfl rfl ?_
    refine aw_iload_n dX5_fair_75 rfl ?_
    refine aw_iload_n dX5_fair_76 rfl ?_
    refine aw_iload dX5_fair_77 rfl ?_
    refine aw_iload_n dX5_fair_79 rfl ?_
    refine aw_iconst dX5_fair_80 ?_
    refine aw_icmp_ne (tg := 88) dX5_fair_81 (by decide) (by omega) (fun h81 => ?_) (fun h81 => ?_)
    · refine aw_iconst dX5_fair_88 ?_
      refine aw_V4 dX5_fair_89 okX4_ledBy lkX5_245 rfl rfl rfl ?_
      refine hled _ _ (by rcases hw with q | q <;> first | (exfalso; omega) | (unfold sp_bl; simp [q.2])) ?_
      have b3 : 0 ≤ zle Z l e n v ∧ zle Z l e n v ≤ 2376 := zle_b hV
      refine aw_istore (L2 := [_, _, _, _, _, _, _, _]) dX5_fair_92 (by decide) rfl rfl ?_
      refine aw_iload dX5_fair_94 rfl ?_
      refine aw_iload dX5_fair_96 rfl ?_
      refine aw_mmax dX5_fair_98 lkX5_249 (by omega) rfl ?_
      refine aw_istore (L2 := [_, _, _, _, _, _, _, _]) dX5_fair_101 (by decide) rfl rfl ?_
      refine aw_iload dX5_fair_103 rfl ?_
      refine aw_iload dX5_fair_105 rfl ?_
      refine aw_mmin dX5_fair_107 lkX5_254 (by omega) rfl ?_
      refine aw_istore (L2 := [_, _, _, _, _, _, _, _]) dX5_fair_110 (by decide) rfl rfl ?_
      refine aw_iinc (L2 := [_, _, _, _, _, _, _, _]) dX5_fair_112 rfl (by decide) rfl rfl ?_
      refine aw_goto (tg := 57) dX5_fair_115 (by decide) ?_
      exact ih (n + 1) _ _ _ (by omega) (by omega) s1.symm s2.symm
    · refine aw_iconst dX5_fair_84 ?_
      refine aw_goto (tg := 89) dX5_fair_85 (by decide) ?_
      refine aw_V4 dX5_fair_89 okX4_ledBy lkX5_245 rfl rfl rfl ?_
      refine hled _ _ (by rcases hw with q | q <;> first | (exfalso; omega) | (unfold sp_bl; simp [q.2])) ?_
      have b3 : 0 ≤ zle Z l e n v ∧ zle Z l e n v ≤ 2376 := zle_b hV
      refine aw_istore (L2 := [_, _, _, _, _, _, _, _]) dX5_fair_92 (by decide) rfl rfl ?_
      refine aw_iload dX5_fair_94 rfl ?_
      refine aw_iload dX5_fair_96 rfl ?_
      refine aw_mmax dX5_fair_98 lkX5_249 (by omega) rfl ?_
      refine aw_istore (L2 := [_, _, _, _, _, _, _, _]) dX5_fair_101 (by decide) rfl rfl ?_
      refine aw_iload dX5_fair_103 rfl ?_
      refine aw_iload dX5_fair_105 rfl ?_
      refine aw_mmin dX5_fair_107 lkX5_254 (by omega) rfl ?_
      refine aw_istore (L2 := [_, _, _, _, _, _, _, _]) dX5_fair_110 (by decide) rfl rfl ?_
      refine aw_iinc (L2 := [_, _, _, _, _, _, _, _]) dX5_fair_112 rfl (by decide) rfl rfl ?_
      refine aw_goto (tg := 57) dX5_fair_115 (by decide) ?_
      exact ih (n + 1) _ _ _ (by omega) (by omega) s1.symm s2.symm
theorem qX5_fair_v (d : Nat) {B : Int} {Z : zZ} {l e what : Int} {v : Prop} [Decidable v] {g : sp_G} {Q : sp_P} (hR : cRep g Z) (hV : zV B Z) (hl : 0 ≤ l ∧ l ≤ 3) (he : 0 ≤ e ∧ e ≤ 5) (hw : (what = 1 ∧ v) ∨ (what = 0 ∧ ¬ v)) (hQ : Q (some (v_i (mx (fun n => zle Z l e n v) ((zm (zt Z)) (l * 6 + e)) - mn (fun n => zle Z l e n v) ((zm (zt Z)) (l * 6 + e))))) g) : sp_AW mX5_fair (d + 3) 28 [some (v_r 0), some (v_i l), some (v_i e), some (v_i what), none, none, none, none] [] g Q := by
  have hnb := hV.1.2.2.1 (l * 6 + e) (by omega) (by omega)
  have hled : ∀ (x : Int) (R : sp_P), x = sp_bl v → R (some (v_i (zle Z l e 0 v))) g → sp_Met (d + 2) mX4_ledBy [v_r 1, v_i l, v_i e, v_i 0, v_i x] g R := fun x R ex hR9 => by
    rw [ex]
    exact tX4_ledBy (v := v) _ hl he (by omega) hV.1 hR.1.1 hR.1.2.1 hR.1.2.2.1 hR9
  refine aw_aload_n dX5_fair_28 rfl ?_
  refine aw_getR dX5_fair_29 flX5_10 rfl rfl ?_
  refine aw_iload_n dX5_fair_32 rfl ?_
  refine aw_iload_n dX5_fair_33 rfl ?_
  refine aw_iconst dX5_fair_34 ?_
  refine aw_iload_n dX5_fair_35 rfl ?_
  refine aw_iconst dX5_fair_36 ?_
  refine aw_icmp_ne (tg := 44) dX5_fair_37 (by decide) (by omega) (fun h37 => ?_) (fun h37 => ?_)
  · refine aw_iconst dX5_fair_44 ?_
    refine aw_V4 dX5_fair_45 okX4_ledBy lkX5_245 rfl rfl rfl ?_
    refine hled _ _ (by rcases hw with q | q <;> first | (exfalso; omega) | (unfold sp_bl; simp [q.2])) ?_
    refine aw_istore (L2 := [_, _, _, _, _, _, _, _]) dX5_fair_48 (by decide) rfl rfl ?_
    refine aw_iload dX5_fair_50 rfl ?_
    refine aw_istore (L2 := [_, _, _, _, _, _, _, _]) dX5_fair_52 (by decide) rfl rfl ?_
    refine aw_iconst dX5_fair_54 ?_
    refine aw_istore (L2 := [_, _, _, _, _, _, _, _]) dX5_fair_55 (by decide) rfl rfl ?_
    exact lX5_fair _ hR hV hl he hw hQ ((zm (zt Z)) (l * 6 + e) - 1).toNat 1 _ _ _ (by omega) (by omega) (mx_1 (fun n => zle Z l e n v)).symm (mn_1 (fun n => zle Z l e n v)).symm
  · refine aw_iconst dX5_fair_40 ?_
    refine aw_goto (tg := 45) dX5_fair_41 (by decide) ?_
    refine aw_V4 dX5_fair_45 okX4_ledBy lkX5_245 rfl rfl rfl ?_
    refine hled _ _ (by rcases hw with q | q <;> first | (exfalso; omega) | (unfold sp_bl; simp [q.2])) ?_
    refine aw_istore (L2 := [_, _, _, _, _, _, _, _]) dX5_fair_48 (by decide) rfl rfl ?_
    refine aw_iload dX5_fair_50 rfl ?_
    refine aw_istore (L2 := [_, _, _, _, _, _, _, _]) dX5_fair_52 (by decide) rfl rfl ?_
    refine aw_iconst dX5_fair_54 ?_
    refine aw_istore (L2 := [_, _, _, _, _, _, _, _]) dX5_fair_55 (by decide) rfl rfl ?_
    exact lX5_fair _ hR hV hl he hw hQ ((zm (zt Z)) (l * 6 + e) - 1).toNat 1 _ _ _ (by omega) (by omega) (mx_1 (fun n => zle Z l e n v)).symm (mn_1 (fun n => zle Z l e n v)).symm
def zfa (Z : zZ) (l e what : Int) : Int := if what = 1 then mx (fun n => zle Z l e n True) ((zm (zt Z)) (l * 6 + e)) - mn (fun n => zle Z l e n True) ((zm (zt Z)) (l * 6 + e)) else mx (fun n => zle Z l e n False) ((zm (zt Z)) (l * 6 + e)) - mn (fun n => zle Z l e n False) ((zm (zt Z)) (l * 6 + e))
theorem qX5_fair (d : Nat) {B : Int} {Z : zZ} {l e what : Int} {g : sp_G} {Q : sp_P} (hR : cRep g Z) (hV : zV B Z) (hr : ((-2147483648 ≤ l ∧ l < 2147483648)) ∧ ((-2147483648 ≤ e ∧ e < 2147483648)) ∧ ((-2147483648 ≤ what ∧ what < 2147483648))) (h1 : ((0 ≤ l ∧ l ≤ 3) ∧ (0 ≤ e ∧ e ≤ 5) ∧ (0 ≤ what ∧ what ≤ 1)) → ∀ g2 : sp_G, cRep g2 Z → fMo g g2 → Q (some (v_i (zfa Z l e what))) g2) (h2 : ¬ (((0 ≤ l ∧ l ≤ 3) ∧ (0 ≤ e ∧ e ≤ 5) ∧ (0 ≤ what ∧ what ≤ 1))) → ∀ g2 : sp_G, cRep g2 (zr 3 Z) → fMo g g2 → Q (some (v_i (-2))) g2) : sp_Met (d + 8) mX5_fair [v_r 0, v_i l, v_i e, v_i what] g Q := by
  refine sp_of (L := [_, _, _, _, _, _, _, _]) (by decide) (Nat.le_of_ble_eq_true rfl) rfl rfl ?_
  refine aw_iload_n dX5_fair_0 rfl ?_
  refine aw_S1 dX5_fair_1 okX5_isLayer lkX5_54 rfl ?_
  refine tX5_isLayer _ (by omega) ?_
  refine aw_ifeq_b (tg := 23) dX5_fair_4 (by decide) (fun h4 => ?_) (fun h4 => ?_)
  · refine aw_aload_n dX5_fair_23 rfl ?_
    refine aw_V0 dX5_fair_24 okX5_refuseBad lkX5_62 rfl rfl rfl ?_
    refine zX5_refuseBad _ hR hV (fun g2 r2 m2 => ?_)
    refine aw_iret dX5_fair_27 rfl ?_
    exact h2 (by omega) g2 r2 m2
  · refine aw_iload_n dX5_fair_7 rfl ?_
    refine aw_S1 dX5_fair_8 okX5_isDistrict lkX5_74 rfl ?_
    refine tX5_isDistrict _ (by omega) ?_
    refine aw_ifeq_b (tg := 23) dX5_fair_11 (by decide) (fun h11 => ?_) (fun h11 => ?_)
    · refine aw_aload_n dX5_fair_23 rfl ?_
      refine aw_V0 dX5_fair_24 okX5_refuseBad lkX5_62 rfl rfl rfl ?_
      refine zX5_refuseBad _ hR hV (fun g2 r2 m2 => ?_)
      refine aw_iret dX5_fair_27 rfl ?_
      exact h2 (by omega) g2 r2 m2
    · refine aw_iload_n dX5_fair_14 rfl ?_
      refine aw_iconst dX5_fair_15 ?_
      refine aw_iconst dX5_fair_16 ?_
      refine aw_S3 dX5_fair_17 okX5_within lkX5_58 rfl ?_
      refine tX5_within _ (by omega) ?_
      refine aw_ifne_b (tg := 28) dX5_fair_20 (by decide) (fun h20 => ?_) (fun h20 => ?_)
      · have e9 := h1 (by omega) g hR fMo.rf
        unfold zfa at e9
        by_cases q : what = 1
        · rw [if_pos q] at e9
          exact qX5_fair_v (v := True) _ hR hV (by omega) (by omega) (Or.inl ⟨q, trivial⟩) e9
        · rw [if_neg q] at e9
          exact qX5_fair_v (v := False) _ hR hV (by omega) (by omega) (Or.inr ⟨by omega, fun h => h⟩) e9
      · refine aw_aload_n dX5_fair_23 rfl ?_
        refine aw_V0 dX5_fair_24 okX5_refuseBad lkX5_62 rfl rfl rfl ?_
        refine zX5_refuseBad _ hR hV (fun g2 r2 m2 => ?_)
        refine aw_iret dX5_fair_27 rfl ?_
        exact h2 (by omega) g2 r2 m2
def zpl (Z : zZ) (a l n : Int) : Int := if bt (zo (zt Z)) l = 1 ∧ n < (zm (zt Z)) (l * 6 + (zd (zt Z)) (l * 24 + a)) then (n + (zm (zt Z)) (l * 6 + (zd (zt Z)) (l * 24 + a)) - zld Z l a) % (zm (zt Z)) (l * 6 + (zd (zt Z)) (l * 24 + a)) else -1
theorem p_mod {x n : Int} (h0 : 0 < n) (h : -n ≤ x ∧ x < n) : (x + n) % n = if x < 0 then x + n else x := by
  by_cases q : x < 0
  · rw [if_pos q]
    exact Int.emod_eq_of_lt (by omega) (by omega)
  · rw [if_neg q, Int.add_emod_right]
    exact Int.emod_eq_of_lt (by omega) (by omega)
theorem qX5_place (d : Nat) {B : Int} {Z : zZ} {a l n : Int} {g : sp_G} {Q : sp_P} (hR : cRep g Z) (hV : zV B Z) (hr : ((-2147483648 ≤ a ∧ a < 2147483648)) ∧ ((-2147483648 ≤ l ∧ l < 2147483648)) ∧ ((-2147483648 ≤ n ∧ n < 2147483648))) (h1 : ((0 ≤ a ∧ a ≤ 23) ∧ (0 ≤ l ∧ l ≤ 3) ∧ (0 ≤ n ∧ n ≤ 7)) → ∀ g2 : sp_G, cRep g2 Z → fMo g g2 → Q (some (v_i (zpl Z a l n))) g2) (h2 : ¬ (((0 ≤ a ∧ a ≤ 23) ∧ (0 ≤ l ∧ l ≤ 3) ∧ (0 ≤ n ∧ n ≤ 7))) → ∀ g2 : sp_G, cRep g2 (zr 3 Z) → fMo g g2 → Q (some (v_i (-2))) g2) : sp_Met (d + 8) mX5_place [v_r 0, v_i a, v_i l, v_i n] g Q := by
  refine sp_of (L := [_, _, _, _, _, _]) (by decide) (Nat.le_of_ble_eq_true rfl) rfl rfl ?_
  refine aw_iload_n dX5_place_0 rfl ?_
  refine aw_S1 dX5_place_1 okX5_isBlock lkX5_89 rfl ?_
  refine tX5_isBlock _ (by omega) ?_
  refine aw_ifeq_b (tg := 21) dX5_place_4 (by decide) (fun h4 => ?_) (fun h4 => ?_)
  · refine aw_aload_n dX5_place_21 rfl ?_
    refine aw_V0 dX5_place_22 okX5_refuseBad lkX5_62 rfl rfl rfl ?_
    refine zX5_refuseBad _ hR hV (fun g2 r2 m2 => ?_)
    refine aw_iret dX5_place_25 rfl ?_
    exact h2 (by omega) g2 r2 m2
  · refine aw_iload_n dX5_place_7 rfl ?_
    refine aw_S1 dX5_place_8 okX5_isLayer lkX5_54 rfl ?_
    refine tX5_isLayer _ (by omega) ?_
    refine aw_ifeq_b (tg := 21) dX5_place_11 (by decide) (fun h11 => ?_) (fun h11 => ?_)
    · refine aw_aload_n dX5_place_21 rfl ?_
      refine aw_V0 dX5_place_22 okX5_refuseBad lkX5_62 rfl rfl rfl ?_
      refine zX5_refuseBad _ hR hV (fun g2 r2 m2 => ?_)
      refine aw_iret dX5_place_25 rfl ?_
      exact h2 (by omega) g2 r2 m2
    · refine aw_iload_n dX5_place_14 rfl ?_
      refine aw_S1 dX5_place_15 okX5_isName lkX5_239 rfl ?_
      refine tX5_isName _ (by omega) ?_
      refine aw_ifne_b (tg := 26) dX5_place_18 (by decide) (fun h18 => ?_) (fun h18 => ?_)
      · refine aw_aload_n dX5_place_26 rfl ?_
        refine aw_getR dX5_place_27 flX5_10 rfl rfl ?_
        refine aw_iload_n dX5_place_30 rfl ?_
        refine aw_aload_n dX5_place_31 rfl ?_
        refine aw_getR dX5_place_32 flX5_10 rfl rfl ?_
        refine aw_iload_n dX5_place_35 rfl ?_
        refine aw_iload_n dX5_place_36 rfl ?_
        refine aw_V2 dX5_place_37 okX4_districtOf lkX5_123 rfl rfl rfl ?_
        have zb := zld_b hV (l := l) (a := a) (by omega) (by omega)
        refine tX4_districtOf_d _ hR.1.2.1 (by omega) ?_
        refine aw_V2 dX5_place_40 okX4_namesOf lkX5_242 rfl rfl rfl ?_
        refine tX4_namesOf_d _ hR.1.2.2.1 (by omega) ?_
        refine aw_istore (L2 := [_, _, _, _, _, _]) dX5_place_43 (by decide) rfl rfl ?_
        refine aw_aload_n dX5_place_45 rfl ?_
        refine aw_getR dX5_place_46 flX5_10 rfl rfl ?_
        refine aw_iload_n dX5_place_49 rfl ?_
        refine aw_V1 dX5_place_50 okX4_isOn lkX5_183 rfl rfl rfl ?_
        have hon : g 1 3 = (zo (zt Z)) := hR.1.2.2.2
        refine tX4_isOn _ (by rw [hon]; exact bt_01 hV.1.2.2.2 (by omega)) ?_
        rw [hon]
        refine aw_ifeq_b (tg := 62) dX5_place_53 (by decide) (fun h53 => ?_) (fun h53 => ?_)
        · refine aw_iconst dX5_place_62 ?_
          refine aw_iret dX5_place_63 rfl ?_
          have e9 := h1 (by omega) g hR fMo.rf
          unfold zpl at e9
          rwa [if_neg (by omega)] at e9
        · refine aw_iload_n dX5_place_56 rfl ?_
          refine aw_iload dX5_place_57 rfl ?_
          refine aw_icmp_lt (tg := 64) dX5_place_59 (by decide) (by omega) (fun h59 => ?_) (fun h59 => ?_)
          · refine aw_iload_n dX5_place_64 rfl ?_
            refine aw_aload_n dX5_place_65 rfl ?_
            refine aw_getR dX5_place_66 flX5_10 rfl rfl ?_
            refine aw_iload_n dX5_place_69 rfl ?_
            refine aw_iload_n dX5_place_70 rfl ?_
            refine aw_V2 dX5_place_71 okX4_leaderIn lkX5_236 rfl rfl rfl ?_
            refine tX4_leaderIn _ (by omega) (by omega) hV.1 hR.1.2.1 hR.1.2.2.1 ?_
            change sp_AW _ _ _ _ (sp_psh (some (v_i (zld Z l a))) _) _ _
            refine aw_isub dX5_place_74 ?_
            refine aw_istore (L2 := [_, _, _, _, _, _]) dX5_place_75 (by decide) rfl rfl ?_
            refine aw_iload dX5_place_77 rfl ?_
            refine aw_if_ge (tg := 90) dX5_place_79 (by decide) (by omega) (fun h79 => ?_) (fun h79 => ?_)
            · refine aw_iload dX5_place_90 rfl ?_
              refine aw_iret dX5_place_92 rfl ?_
              have e9 := h1 (by omega) g hR fMo.rf
              unfold zpl at e9
              rw [if_pos (by omega)] at e9
              have e8 := p_mod (x := n - zld Z l a) (n := (zm (zt Z)) (l * 6 + (zd (zt Z)) (l * 24 + a))) (by omega) (by omega)
              rw [show n - zld Z l a + (zm (zt Z)) (l * 6 + (zd (zt Z)) (l * 24 + a)) = n + (zm (zt Z)) (l * 6 + (zd (zt Z)) (l * 24 + a)) - zld Z l a by omega] at e8
              rw [e8] at e9
              rwa [if_neg (by omega)] at e9
            · refine aw_iload dX5_place_82 rfl ?_
              refine aw_iload dX5_place_84 rfl ?_
              refine aw_iadd dX5_place_86 ?_
              refine aw_goto (tg := 92) dX5_place_87 (by decide) ?_
              refine aw_iret dX5_place_92 rfl ?_
              have e9 := h1 (by omega) g hR fMo.rf
              unfold zpl at e9
              rw [if_pos (by omega)] at e9
              have e8 := p_mod (x := n - zld Z l a) (n := (zm (zt Z)) (l * 6 + (zd (zt Z)) (l * 24 + a))) (by omega) (by omega)
              rw [show n - zld Z l a + (zm (zt Z)) (l * 6 + (zd (zt Z)) (l * 24 + a)) = n + (zm (zt Z)) (l * 6 + (zd (zt Z)) (l * 24 + a)) - zld Z l a by omega] at e8
              rw [e8] at e9
              rw [if_pos (by omega)] at e9
              rw [show n - zld Z l a + (zm (zt Z)) (l * 6 + (zd (zt Z)) (l * 24 + a)) = n + (zm (zt Z)) (l * 6 + (zd (zt Z)) (l * 24 + a)) - zld Z l a by omega]
              exact e9
          · refine aw_iconst dX5_place_62 ?_
            refine aw_iret dX5_place_63 rfl ?_
            have e9 := h1 (by omega) g hR fMo.rf
            unfold zpl at e9
            rwa [if_neg (by omega)] at e9
      · refine aw_aload_n dX5_place_21 rfl ?_
        refine aw_V0 dX5_place_22 okX5_refuseBad lkX5_62 rfl rfl rfl ?_
        refine zX5_refuseBad _ hR hV (fun g2 r2 m2 => ?_)
        refine aw_iret dX5_place_25 rfl ?_
        exact h2 (by omega) g2 r2 m2
def zcn (Z : zZ) (k : Int) : Int := if k = 0 then zn Z 3 else if k = 1 then zn Z 4 else if k = 2 then zn Z 5 else if k = 3 then zl Z else if k = 4 then zn Z 0 else if k = 5 then zn Z 1 else if k = 6 then zn Z 2 else if k = 7 then (zo (zt Z)) else zc Z
theorem tX5_counter (d : Nat) {B : Int} {Z : zZ} {k : Int} {g : sp_G} {Q : sp_P} (hR : cRep g Z) (hV : zV B Z) (hk : 0 ≤ k ∧ k ≤ 8) (hQ : Q (some (v_i (zcn Z k))) g) : sp_Met d mX5_counter [v_r 0, v_i k] g Q := by
  refine sp_of (L := [_, _]) (by decide) (Nat.le_of_ble_eq_true rfl) rfl rfl ?_
  refine aw_iload_n dX5_counter_0 rfl ?_
  rcases (show k = 0 ∨ k = 1 ∨ k = 2 ∨ k = 3 ∨ k = 4 ∨ k = 5 ∨ k = 6 ∨ k = 7 ∨ k = 8 by omega) with h9 | h9 | h9 | h9 | h9 | h9 | h9 | h9 | h9
  · subst h9
    refine aw_tin (tg := 48) dX5_counter_1 (by omega) (by omega) rfl (by decide) ?_
    refine aw_aload_n dX5_counter_48 rfl ?_
    refine aw_getI (kz := 5) dX5_counter_49 flX5_44 rfl rfl rfl ?_
    refine aw_iret dX5_counter_52 rfl ?_
    rw [hR.2.2.2.2.2.1.1]
    exact hQ
  · subst h9
    refine aw_tin (tg := 53) dX5_counter_1 (by omega) (by omega) rfl (by decide) ?_
    refine aw_aload_n dX5_counter_53 rfl ?_
    refine aw_getI (kz := 6) dX5_counter_54 flX5_48 rfl rfl rfl ?_
    refine aw_iret dX5_counter_57 rfl ?_
    rw [hR.2.2.2.2.2.1.2.1]
    exact hQ
  · subst h9
    refine aw_tin (tg := 58) dX5_counter_1 (by omega) (by omega) rfl (by decide) ?_
    refine aw_aload_n dX5_counter_58 rfl ?_
    refine aw_getI (kz := 7) dX5_counter_59 flX5_51 rfl rfl rfl ?_
    refine aw_iret dX5_counter_62 rfl ?_
    rw [hR.2.2.2.2.2.1.2.2]
    exact hQ
  · subst h9
    refine aw_tin (tg := 63) dX5_counter_1 (by omega) (by omega) rfl (by decide) ?_
    refine aw_aload_n dX5_counter_63 rfl ?_
    refine aw_getR dX5_counter_64 flX5_40 rfl rfl ?_
    refine aw_getIn (kz := 1) dX5_counter_67 flX5_264 rfl rfl rfl ?_
    refine aw_iret dX5_counter_70 rfl ?_
    rw [hR.2.2.2.2.2.2.1]
    exact hQ
  · subst h9
    refine aw_tin (tg := 71) dX5_counter_1 (by omega) (by omega) rfl (by decide) ?_
    refine aw_aload_n dX5_counter_71 rfl ?_
    refine aw_getR dX5_counter_72 flX5_33 rfl rfl ?_
    refine aw_getIn (kz := 0) dX5_counter_75 flX5_267 rfl rfl rfl ?_
    refine aw_iret dX5_counter_78 rfl ?_
    rw [hR.2.2.2.2.1.1]
    exact hQ
  · subst h9
    refine aw_tin (tg := 79) dX5_counter_1 (by omega) (by omega) rfl (by decide) ?_
    refine aw_aload_n dX5_counter_79 rfl ?_
    refine aw_getR dX5_counter_80 flX5_33 rfl rfl ?_
    refine aw_getIn (kz := 1) dX5_counter_83 flX5_270 rfl rfl rfl ?_
    refine aw_iret dX5_counter_86 rfl ?_
    rw [hR.2.2.2.2.1.2.1]
    exact hQ
  · subst h9
    refine aw_tin (tg := 87) dX5_counter_1 (by omega) (by omega) rfl (by decide) ?_
    refine aw_aload_n dX5_counter_87 rfl ?_
    refine aw_getR dX5_counter_88 flX5_33 rfl rfl ?_
    refine aw_getIn (kz := 2) dX5_counter_91 flX5_201 rfl rfl rfl ?_
    refine aw_iret dX5_counter_94 rfl ?_
    rw [hR.2.2.2.2.1.2.2]
    exact hQ
  · subst h9
    refine aw_tin (tg := 95) dX5_counter_1 (by omega) (by omega) rfl (by decide) ?_
    refine aw_aload_n dX5_counter_95 rfl ?_
    refine aw_getR dX5_counter_96 flX5_10 rfl rfl ?_
    refine aw_getIn (kz := 3) dX5_counter_99 flX5_162 rfl rfl rfl ?_
    refine aw_iret dX5_counter_102 rfl ?_
    rw [show g 1 3 = (zo (zt Z)) from hR.1.2.2.2]
    exact hQ
  · subst h9
    refine aw_tout (tg := 103) dX5_counter_1 (by omega) (by omega) (by decide) ?_
    refine aw_aload_n dX5_counter_103 rfl ?_
    refine aw_getR dX5_counter_104 flX5_19 rfl rfl ?_
    refine aw_getIn (kz := 2) dX5_counter_107 flX5_103 rfl rfl rfl ?_
    refine aw_iret dX5_counter_110 rfl ?_
    rw [hR.2.2.1]
    exact hQ
theorem qX5_told (d : Nat) {B : Int} {Z : zZ} {k : Int} {g : sp_G} {Q : sp_P} (hR : cRep g Z) (hV : zV B Z) (hr : (-2147483648 ≤ k ∧ k < 2147483648)) (h1 : (0 ≤ k ∧ k ≤ 8) → ∀ g2 : sp_G, cRep g2 Z → fMo g g2 → Q (some (v_i (zcn Z k))) g2) (h2 : ¬ ((0 ≤ k ∧ k ≤ 8)) → ∀ g2 : sp_G, cRep g2 (zr 3 Z) → fMo g g2 → Q (some (v_i (-2))) g2) : sp_Met (d + 8) mX5_told [v_r 0, v_i k] g Q := by
  refine sp_of (L := [_, _]) (by decide) (Nat.le_of_ble_eq_true rfl) rfl rfl ?_
  refine aw_iload_n dX5_told_0 rfl ?_
  refine aw_iconst dX5_told_1 ?_
  refine aw_bipush dX5_told_2 (by decide) ?_
  refine aw_S3 dX5_told_4 okX5_within lkX5_58 rfl ?_
  refine tX5_within _ (by omega) ?_
  refine aw_ifeq_b (tg := 18) dX5_told_7 (by decide) (fun h7 => ?_) (fun h7 => ?_)
  · refine aw_aload_n dX5_told_18 rfl ?_
    refine aw_V0 dX5_told_19 okX5_refuseBad lkX5_62 rfl rfl rfl ?_
    refine zX5_refuseBad _ hR hV (fun g2 r2 m2 => ?_)
    refine aw_iret dX5_told_22 rfl ?_
    exact h2 (by omega) g2 r2 m2
  · refine aw_aload_n dX5_told_10 rfl ?_
    refine aw_iload_n dX5_told_11 rfl ?_
    refine aw_V1 dX5_told_12 okX5_counter lkX5_257 rfl rfl rfl ?_
    refine tX5_counter _ hR hV (by omega) ?_
    refine aw_goto (tg := 22) dX5_told_15 (by decide) ?_
    refine aw_iret dX5_told_22 rfl ?_
    exact h1 (by omega) g hR fMo.rf
theorem tX2_isFull (d : Nat) {n : Int} {g : sp_G} {Q : sp_P} (e : g 49 1 = n) (hn : 0 ≤ n ∧ n ≤ 120) (hQ : Q (some (v_i (sp_bl (120 ≤ n)))) g) : sp_Met d mX2_isFull [v_r 49] g Q := by
  refine sp_of (L := [_]) (by decide) (Nat.le_of_ble_eq_true rfl) rfl rfl ?_
  refine aw_aload_n dX2_isFull_0 rfl ?_
  refine aw_getI (kz := 1) dX2_isFull_1 flX2_15 rfl rfl rfl ?_
  refine aw_bipush dX2_isFull_4 (by decide) ?_
  rw [e]
  refine aw_icmp_lt (tg := 13) dX2_isFull_6 (by decide) (by omega) (fun h6 => ?_) (fun h6 => ?_)
  · refine aw_iconst dX2_isFull_13 ?_
    refine aw_zret dX2_isFull_14 rfl (by decide) ?_
    first | exact p_ie (P := fun z => Q (some (v_i z)) _) hQ (by omega) | exact p_it (P := fun z => Q (some (v_i z)) _) hQ (by omega)
  · refine aw_iconst dX2_isFull_9 ?_
    refine aw_goto (tg := 14) dX2_isFull_10 (by decide) ?_
    refine aw_zret dX2_isFull_14 rfl (by decide) ?_
    first | exact p_ie (P := fun z => Q (some (v_i z)) _) hQ (by omega) | exact p_it (P := fun z => Q (some (v_i z)) _) hQ (by omega)
theorem tX2_addByte (d : Nat) {n c : Int} {g : sp_G} {Q : sp_P} (e : g 49 1 = n) (hn : 0 ≤ n ∧ n < 120) (hc : 0 ≤ c ∧ c ≤ 127) (hQ : Q (some (v_i (n + 1))) (sp_up (sp_up g 50 n c) 49 1 (n + 1))) : sp_Met (d + 1) mX2_addByte [v_r 49, v_i c] g Q := by
  refine sp_of (L := [_, _]) (by decide) (Nat.le_of_ble_eq_true rfl) rfl rfl ?_
  refine aw_aload_n dX2_addByte_0 rfl ?_
  refine aw_V0 dX2_addByte_1 okX2_isFull lkX2_35 rfl rfl rfl ?_
  refine tX2_isFull _ e (by omega) ?_
  refine aw_ifne_b (tg := 28) dX2_addByte_4 (by decide) (fun h4 => absurd h4 (by omega)) (fun h4 => ?_)
  refine aw_aload_n dX2_addByte_7 rfl ?_
  refine aw_getR dX2_addByte_8 flX2_11 rfl rfl ?_
  refine aw_aload_n dX2_addByte_11 rfl ?_
  refine aw_getI (kz := 1) dX2_addByte_12 flX2_15 rfl rfl rfl ?_
  rw [e]
  refine aw_iload_n dX2_addByte_15 rfl ?_
  refine aw_i2b dX2_addByte_16 (by omega) ?_
  refine aw_bast dX2_addByte_17 rfl (by omega) (by omega) ?_
  refine aw_aload_n dX2_addByte_18 rfl ?_
  refine aw_dup dX2_addByte_19 rfl ?_
  refine aw_getI (kz := 1) dX2_addByte_20 flX2_15 rfl rfl rfl ?_
  rw [sp_up_o _ _ _ _ (by decide), e]
  refine aw_iconst dX2_addByte_23 ?_
  refine aw_iadd dX2_addByte_24 ?_
  refine aw_putI (kz := 1) dX2_addByte_25 flX2_15 fi_2_1 rfl rfl rfl  ?_
  refine aw_aload_n dX2_addByte_28 rfl ?_
  refine aw_getI (kz := 1) dX2_addByte_29 flX2_15 rfl rfl rfl ?_
  rw [sp_up_s]
  refine aw_iret dX2_addByte_32 rfl ?_
  exact hQ
theorem tX2_makeEmpty (d : Nat) {n : Int} {g : sp_G} {Q : sp_P} (e : g 49 1 = n) (hQ : Q (some (v_i n)) (sp_up g 49 1 0)) : sp_Met d mX2_makeEmpty [v_r 49] g Q := by
  refine sp_of (L := [_, _]) (by decide) (Nat.le_of_ble_eq_true rfl) rfl rfl ?_
  refine aw_aload_n dX2_makeEmpty_0 rfl ?_
  refine aw_getI (kz := 1) dX2_makeEmpty_1 flX2_15 rfl rfl rfl ?_
  rw [e]
  refine aw_istore_n (L2 := [_, _]) dX2_makeEmpty_4 (by decide) rfl rfl ?_
  refine aw_aload_n dX2_makeEmpty_5 rfl ?_
  refine aw_iconst dX2_makeEmpty_6 ?_
  refine aw_putI (kz := 1) dX2_makeEmpty_7 flX2_15 fi_2_1 rfl rfl rfl  ?_
  refine aw_iload_n dX2_makeEmpty_10 rfl ?_
  refine aw_iret dX2_makeEmpty_11 rfl ?_
  exact hQ
/-- a byte more; no byte -/
def zty (c : Int) (Z : zZ) : zZ := (zt Z, zh Z, zc Z, zn Z, up1 (zx Z) (zl Z) c, zl Z + 1)
def zcl (Z : zZ) : zZ := (zt Z, zh Z, zc Z, zn Z, zx Z, 0)
theorem zty_V {B c : Int} {Z : zZ} (h : zV B Z) (hc : 0 ≤ c ∧ c ≤ 127) (hl : zl Z < 120) : zV B (zty c Z) := by
  obtain ⟨h1, h2, h3, h4, h5, h6, h7⟩ := h
  refine ⟨h1, h2, h3, h4, h5, ?_, fun i i0 i1 => ?_⟩
  · show 0 ≤ zl Z + 1 ∧ zl Z + 1 ≤ 120
    omega
  · have i1 : i < zl Z + 1 := i1
    show 0 ≤ up1 (zx Z) (zl Z) c i ∧ up1 (zx Z) (zl Z) c i ≤ 127
    by_cases hi : i = zl Z
    · rw [hi, up1_s]; exact hc
    · rw [up1_n _ _ hi]; exact h7 i i0 (by omega)
theorem zcl_V {B : Int} {Z : zZ} (h : zV B Z) : zV B (zcl Z) := by
  obtain ⟨h1, h2, h3, h4, h5, h6, h7⟩ := h
  refine ⟨h1, h2, h3, h4, h5, ?_, fun i i0 i1 => ?_⟩
  · show 0 ≤ (0 : Int) ∧ (0 : Int) ≤ 120
    omega
  · have i1 : i < 0 := i1
    omega
theorem cRep.txt {g g2 : sp_G} {Z : zZ} {x : Int → Int} {n : Int} (h : cRep g Z) (hf : sp_fr [49, 50] g g2) (e : g2 49 1 = n) (hx : rH g2 50 0 n x) : cRep g2 (zt Z, zh Z, zc Z, zn Z, x, n) := by
  obtain ⟨h1, h2, h3, h4, h5, h6, h7, h8⟩ := h
  have e5 : ∀ p j, p ≠ 49 → p ≠ 50 → g2 p j = g p j := fun p j hp hq => hf p (by simp; omega) j
  refine ⟨h1.fr hf (by decide), by rw [e5 _ _ (by decide) (by decide)]; exact h2, by rw [e5 _ _ (by decide) (by decide)]; exact h3, fun j j0 j1 => ?_, by rw [e5 _ _ (by decide) (by decide), e5 _ _ (by decide) (by decide), e5 _ _ (by decide) (by decide)]; exact h5, by rw [e5 _ _ (by decide) (by decide), e5 _ _ (by decide) (by decide), e5 _ _ (by decide) (by decide)]; exact h6, e, hx⟩
  rw [e5 _ _ (by decide) (by decide)]
  refine (h4 j j0 j1).fr hf (fun x hx => ?_)
  have : 49 ≤ x := by revert x; decide
  have : ((g 5 1 - zc Z + j) % 8).toNat ≤ 7 := by omega
  omega
theorem qX5_type (d : Nat) {B : Int} {Z : zZ} {c : Int} {g : sp_G} {Q : sp_P} (hR : cRep g Z) (hV : zV B Z) (hr : (-2147483648 ≤ c ∧ c < 2147483648)) (h1 : (0 ≤ c ∧ c ≤ 127) → zl Z < 120 → ∀ g2 : sp_G, cRep g2 (zty c Z) → fMo g g2 → Q (some (v_i (zl Z + 1))) g2) (h3 : (0 ≤ c ∧ c ≤ 127) → ¬ zl Z < 120 → ∀ g2 : sp_G, cRep g2 (zr 5 Z) → fMo g g2 → Q (some (v_i (-4))) g2) (h2 : ¬ (0 ≤ c ∧ c ≤ 127) → ∀ g2 : sp_G, cRep g2 (zr 3 Z) → fMo g g2 → Q (some (v_i (-2))) g2) : sp_Met (d + 8) mX5_type [v_r 0, v_i c] g Q := by
  refine sp_of (L := [_, _]) (by decide) (Nat.le_of_ble_eq_true rfl) rfl rfl ?_
  have hll := hV.2.2.2.2.2.1
  have e49 := hR.2.2.2.2.2.2.1
  refine aw_iload_n dX5_type_0 rfl ?_
  refine aw_iconst dX5_type_1 ?_
  refine aw_bipush dX5_type_2 (by decide) ?_
  refine aw_S3 dX5_type_4 okX5_within lkX5_58 rfl ?_
  refine tX5_within _ (by omega) ?_
  refine aw_ifne_b (tg := 15) dX5_type_7 (by decide) (fun h7 => ?_) (fun h7 => ?_)
  · refine aw_aload_n dX5_type_15 rfl ?_
    refine aw_getR dX5_type_16 flX5_40 rfl rfl ?_
    refine aw_V0 dX5_type_19 okX2_isFull lkX5_126 rfl rfl rfl ?_
    refine tX2_isFull _ e49 hll ?_
    refine aw_ifeq_b (tg := 30) dX5_type_22 (by decide) (fun h22 => ?_) (fun h22 => ?_)
    · refine aw_aload_n dX5_type_30 rfl ?_
      refine aw_getR dX5_type_31 flX5_40 rfl rfl ?_
      refine aw_iload_n dX5_type_34 rfl ?_
      refine aw_V1 dX5_type_35 okX2_addByte lkX5_133 rfl rfl rfl ?_
      refine tX2_addByte _ e49 (by omega) (by omega) ?_
      refine aw_iret dX5_type_38 rfl ?_
      refine h1 (by omega) (by omega) _ (hR.txt ((sp_fr.rf.up (by decide)).up (by decide)) (sp_up_s _ _ _ _) ?_) ((fMo.rf.up (by decide)).up (by decide))
      exact (l_put hR.2.2.2.2.2.2.2).ne (by decide)
    · refine aw_aload_n dX5_type_25 rfl ?_
      refine aw_V0 dX5_type_26 okX5_refuseFull lkX5_130 rfl rfl rfl ?_
      refine zX5_refuseFull _ hR hV (fun g2 r2 m2 => ?_)
      refine aw_iret dX5_type_29 rfl ?_
      exact h3 (by omega) (by omega) g2 r2 m2
  · refine aw_aload_n dX5_type_10 rfl ?_
    refine aw_V0 dX5_type_11 okX5_refuseBad lkX5_62 rfl rfl rfl ?_
    refine zX5_refuseBad _ hR hV (fun g2 r2 m2 => ?_)
    refine aw_iret dX5_type_14 rfl ?_
    exact h2 (by omega) g2 r2 m2
theorem qX5_clear (d : Nat) {B : Int} {Z : zZ} {g : sp_G} {Q : sp_P} (hR : cRep g Z) (hV : zV B Z) (h1 : ∀ g2 : sp_G, cRep g2 (zcl Z) → fMo g g2 → Q (some (v_i (zl Z))) g2) : sp_Met (d + 8) mX5_clear [v_r 0] g Q := by
  refine sp_of (L := [_]) (by decide) (Nat.le_of_ble_eq_true rfl) rfl rfl ?_
  refine aw_aload_n dX5_clear_0 rfl ?_
  refine aw_getR dX5_clear_1 flX5_40 rfl rfl ?_
  refine aw_V0 dX5_clear_4 okX2_makeEmpty lkX5_137 rfl rfl rfl ?_
  refine tX2_makeEmpty _ hR.2.2.2.2.2.2.1 ?_
  refine aw_iret dX5_clear_7 rfl ?_
  refine h1 _ (hR.txt (sp_fr.rf.up (by decide)) (sp_up_s _ _ _ _) (fun i j i0 i1 => by omega)) (fMo.rf.up (by decide))
/-- told on: thirty-one times, and the next -/
def hN (f : Int → Int) (h : Int) : Nat → Int
  | 0 => h
  | n + 1 => 31 * hN f h n + f n
def hI (f : Int → Int) (h n : Int) : Int := hN f h n.toNat
theorem hI_0 (f : Int → Int) (h : Int) : hI f h 0 = h := rfl
theorem hI_s {f : Int → Int} {h n : Int} (h0 : 0 ≤ n) : hI f h (n + 1) = 31 * hI f h n + f n := by
  have e : (n + 1).toNat = n.toNat + 1 := by omega
  have e2 : ((n.toNat : Nat) : Int) = n := Int.toNat_of_nonneg h0
  unfold hI
  rw [e, hN, e2]
/-- blocks, one by one -/
def bN (pe di : Int → Int) (h : Int) : Nat → Int
  | 0 => h
  | n + 1 => hI (fun l => di (l * 24 + n)) (31 * bN pe di h n + pe n) 4
def bI (pe di : Int → Int) (h n : Int) : Int := bN pe di h n.toNat
theorem bI_s {pe di : Int → Int} {h n : Int} (h0 : 0 ≤ n) : bI pe di h (n + 1) = hI (fun l => di (l * 24 + n)) (31 * bI pe di h n + pe n) 4 := by
  have e : (n + 1).toNat = n.toNat + 1 := by omega
  have e2 : ((n.toNat : Nat) : Int) = n := Int.toNat_of_nonneg h0
  unfold bI
  rw [e, bN, e2]
def zg1 (Z : zZ) : Int := hI (zcn Z) 2027 9
def zg2 (Z : zZ) : Int := bI (zp (zt Z)) (zd (zt Z)) (zg1 Z) 24
def zg3 (Z : zZ) : Int := hI (zm (zt Z)) (zg2 Z) 24
def zg4 (Z : zZ) : Int := 31 * (31 * zg3 Z + (sc (ky (zo (zt Z)) (zd (zt Z))) 24)) + sI (bd (sy (ky (zo (zt Z)) (zd (zt Z))) 24)) 24
def zdg (Z : zZ) : Int := hI (fun s => shs (zL Z (zn Z 2) s)) (zg4 Z) (sc (ky (zo (zt Z)) (zd (zt Z))) 24)
theorem zcn_b {B : Int} {Z : zZ} {k : Int} (hV : zV B Z) (hB : B ≤ 1000000) (hk : 0 ≤ k ∧ k ≤ 8) : 0 ≤ zcn Z k ∧ zcn Z k ≤ 1000000 := by
  obtain ⟨h1, h2, h3, h4, h5, h6, h7⟩ := hV
  have ho := h1.2.2.2
  unfold zcn
  repeat' split
  all_goals omega
theorem lX5_dg6 (d : Nat) {B : Int} {Z : zZ} {g0 : sp_G} {Q : sp_P} (hR : cRep g0 Z) (hV : zV B Z) (hst : stH g0 (ky (zo (zt Z)) (zd (zt Z)))) (hQ : ∀ g2 : sp_G, pFr g0 g2 → Q (some (v_l (zdg Z))) g2) :
    ∀ (n : Nat) (s h : Int) (x4 : Option sp_V) (g : sp_G), 0 ≤ s → s + n = (sc (ky (zo (zt Z)) (zd (zt Z))) 24) → h = hI (fun s => shs (zL Z (zn Z 2) s)) (zg4 Z) s → pFr g0 g → sp_nl x4 = true → sp_AW mX5_digest (d + 5) 178 [some (v_r 0), some (v_l h), none, some (v_i s), x4] [] g Q := by
  have hb := (st_b (ky (zo (zt Z)) (zd (zt Z)))).1
  intro n
  induction n with
  | zero =>
    intro s h x4 g h0 hn eh hp hx4
    have es : s = (sc (ky (zo (zt Z)) (zd (zt Z))) 24) := by omega
    have hs := hst.fr hp
    refine aw_iload_n dX5_digest_178 rfl ?_
    refine aw_aload_n dX5_digest_179 rfl ?_
    refine aw_getR dX5_digest_180 flX5_26 rfl rfl ?_
    refine aw_getIn (kz := 5) dX5_digest_183 flX5_148 rfl rfl rfl ?_
    rw [hs.1]
    refine aw_icmp_ge (tg := 215) dX5_digest_186 (by decide) (by omega) (fun h186 => ?_) (fun h186 => absurd h186 (by omega))
    refine aw_lload_n dX5_digest_215 rfl ?_
    refine aw_lret dX5_digest_216 rfl ?_
    have e9 := hQ g hp
    unfold zdg at e9
    rw [eh, es]
    exact e9
  | succ n ih =>
    intro s h x4 g h0 hn eh hp hx4
    have hs := hst.fr hp
    have r1 := hR.sc (scF.p hp)
    have hl := (zL_V hV (R := (zn Z 2)) hV.2.2.2.1.2.2 ⟨h0, show s < (sc (ky (zo (zt Z)) (zd (zt Z))) 24) by omega⟩).2.2.2
    refine aw_iload_n dX5_digest_178 rfl ?_
    refine aw_aload_n dX5_digest_179 rfl ?_
    refine aw_getR dX5_digest_180 flX5_26 rfl rfl ?_
    refine aw_getIn (kz := 5) dX5_digest_183 flX5_148 rfl rfl rfl ?_
    rw [hs.1]
    refine aw_icmp_ge (tg := 215) dX5_digest_186 (by decide) (by omega) (fun h186 => absurd h186 (by omega)) (fun h186 => ?_)
    refine aw_ldc2 dX5_digest_189 kcX5_262 ?_
    refine aw_lload_n dX5_digest_192 rfl ?_
    refine aw_lmul dX5_digest_193 ?_
    refine aw_aload_n dX5_digest_194 rfl ?_
    refine aw_iload_n dX5_digest_195 rfl ?_
    refine aw_aload_n dX5_digest_196 rfl ?_
    refine aw_getR dX5_digest_197 flX5_33 rfl rfl ?_
    refine aw_getIn (kz := 2) dX5_digest_200 flX5_201 rfl rfl rfl ?_
    rw [show g 45 2 = zn Z 2 from r1.2.2.2.2.1.2.2]
    refine aw_V2 dX5_digest_203 okX5_sheetsOf lkX5_204 rfl rfl rfl ?_
    refine tX5_sheetsOf _ r1 hV hs (by omega) hV.2.2.2.1.2.2 (fun g2 hp2 => ?_)
    refine aw_i2l dX5_digest_206 (by omega) ?_
    refine aw_ladd dX5_digest_207 ?_
    refine aw_lstore_n (L2 := [_, _, _, _, _]) dX5_digest_208 (by decide) rfl rfl ?_
    refine aw_iinc (L2 := [_, _, _, _, _]) dX5_digest_209 rfl (by decide) rfl rfl ?_
    refine aw_goto (tg := 178) dX5_digest_212 (by decide) ?_
    exact ih (s + 1) _ _ g2 (by omega) (by omega) (by rw [hI_s h0, eh]) (hp.tr hp2) hx4
theorem lX5_dg3i (d : Nat) {B : Int} {Z : zZ} {l : Int} {g : sp_G} {Q : sp_P} (hR : cRep g Z) (hV : zV B Z) (hl : 0 ≤ l ∧ l < 4) (hk : ∀ x4 : Int, sp_AW mX5_digest (d + 5) 136 [some (v_r 0), some (v_l (hI (zm (zt Z)) (zg2 Z) (l * 6 + 6))), none, some (v_i l), some (v_i x4)] [] g Q) :
    ∀ (n : Nat) (e h : Int), 0 ≤ e → e + n = 6 → h = hI (zm (zt Z)) (zg2 Z) (l * 6 + e) → sp_AW mX5_digest (d + 5) 105 [some (v_r 0), some (v_l h), none, some (v_i l), some (v_i e)] [] g Q := by
  intro n
  induction n with
  | zero =>
    intro e h h0 hn eh
    have ee : e = 6 := by omega
    subst ee
    refine aw_iload dX5_digest_105 rfl ?_
    refine aw_bipush dX5_digest_107 (by decide) ?_
    refine aw_icmp_ge (tg := 136) dX5_digest_109 (by decide) (by omega) (fun h109 => ?_) (fun h109 => absurd h109 (by omega))
    rw [eh]
    exact hk _
  | succ n ih =>
    intro e h h0 hn eh
    have nb9 := hV.1.2.2.1 (l * 6 + e) (by omega) (by omega)
    refine aw_iload dX5_digest_105 rfl ?_
    refine aw_bipush dX5_digest_107 (by decide) ?_
    refine aw_icmp_ge (tg := 136) dX5_digest_109 (by decide) (by omega) (fun h109 => absurd h109 (by omega)) (fun h109 => ?_)
    refine aw_ldc2 dX5_digest_112 kcX5_262 ?_
    refine aw_lload_n dX5_digest_115 rfl ?_
    refine aw_lmul dX5_digest_116 ?_
    refine aw_aload_n dX5_digest_117 rfl ?_
    refine aw_getR dX5_digest_118 flX5_10 rfl rfl ?_
    refine aw_iload_n dX5_digest_121 rfl ?_
    refine aw_iload dX5_digest_122 rfl ?_
    refine aw_V2 dX5_digest_124 okX4_namesOf lkX5_242 rfl rfl rfl ?_
    refine tX4_namesOf_d _ hR.1.2.2.1 (by omega) ?_
    refine aw_i2l dX5_digest_127 (by omega) ?_
    refine aw_ladd dX5_digest_128 ?_
    refine aw_lstore_n (L2 := [_, _, _, _, _]) dX5_digest_129 (by decide) rfl rfl ?_
    refine aw_iinc (L2 := [_, _, _, _, _]) dX5_digest_130 rfl (by decide) rfl rfl ?_
    refine aw_goto (tg := 105) dX5_digest_133 (by decide) ?_
    exact ih (e + 1) _ (by omega) (by omega) (by rw [show l * 6 + (e + 1) = (l * 6 + e) + 1 by omega, hI_s (by omega), eh])
theorem lX5_dg3 (d : Nat) {B : Int} {Z : zZ} {g : sp_G} {Q : sp_P} (hR : cRep g Z) (hV : zV B Z) (hk : ∀ x3 x4 : Option sp_V, sp_nl x3 = true → sp_nl x4 = true → sp_AW mX5_digest (d + 5) 142 [some (v_r 0), some (v_l (zg3 Z)), none, x3, x4] [] g Q) :
    ∀ (n : Nat) (l h : Int) (x4 : Option sp_V), 0 ≤ l → l + n = 4 → h = hI (zm (zt Z)) (zg2 Z) (l * 6) → sp_nl x4 = true → sp_AW mX5_digest (d + 5) 97 [some (v_r 0), some (v_l h), none, some (v_i l), x4] [] g Q := by
  intro n
  induction n with
  | zero =>
    intro l h x4 h0 hn eh hx4
    have ee : l = 4 := by omega
    subst ee
    refine aw_iload_n dX5_digest_97 rfl ?_
    refine aw_iconst dX5_digest_98 ?_
    refine aw_icmp_ge (tg := 142) dX5_digest_99 (by decide) (by omega) (fun h99 => ?_) (fun h99 => absurd h99 (by omega))
    rw [eh]
    exact hk _ _ rfl hx4
  | succ n ih =>
    intro l h x4 h0 hn eh hx4
    refine aw_iload_n dX5_digest_97 rfl ?_
    refine aw_iconst dX5_digest_98 ?_
    refine aw_icmp_ge (tg := 142) dX5_digest_99 (by decide) (by omega) (fun h99 => absurd h99 (by omega)) (fun h99 => ?_)
    refine aw_iconst dX5_digest_102 ?_
    refine aw_istore (L2 := [_, _, _, _, _]) dX5_digest_103 (by decide) rfl rfl ?_
    refine lX5_dg3i _ hR hV (by omega) (fun x4 => ?_) 6 0 _ (by omega) (by omega) (by rw [eh, Int.add_zero])
    refine aw_iinc (L2 := [_, _, _, _, _]) dX5_digest_136 rfl (by decide) rfl rfl ?_
    refine aw_goto (tg := 97) dX5_digest_139 (by decide) ?_
    exact ih (l + 1) _ _ (by omega) (by omega) (by rw [show (l + 1) * 6 = l * 6 + 6 by omega]) rfl
theorem lX5_dg2i (d : Nat) {B : Int} {Z : zZ} {a h1 : Int} {g : sp_G} {Q : sp_P} (hR : cRep g Z) (hV : zV B Z) (ha : 0 ≤ a ∧ a < 24) (hk : ∀ x4 : Int, sp_AW mX5_digest (d + 5) 89 [some (v_r 0), some (v_l (hI (fun l => (zd (zt Z)) (l * 24 + a)) h1 4)), none, some (v_i a), some (v_i x4)] [] g Q) :
    ∀ (n : Nat) (l h : Int), 0 ≤ l → l + n = 4 → h = hI (fun l => (zd (zt Z)) (l * 24 + a)) h1 l → sp_AW mX5_digest (d + 5) 59 [some (v_r 0), some (v_l h), none, some (v_i a), some (v_i l)] [] g Q := by
  intro n
  induction n with
  | zero =>
    intro l h h0 hn eh
    have ee : l = 4 := by omega
    subst ee
    refine aw_iload dX5_digest_59 rfl ?_
    refine aw_iconst dX5_digest_61 ?_
    refine aw_icmp_ge (tg := 89) dX5_digest_62 (by decide) (by omega) (fun h62 => ?_) (fun h62 => absurd h62 (by omega))
    rw [eh]
    exact hk _
  | succ n ih =>
    intro l h h0 hn eh
    have nb9 := hV.1.2.1 (l * 24 + a) (by omega) (by omega)
    refine aw_iload dX5_digest_59 rfl ?_
    refine aw_iconst dX5_digest_61 ?_
    refine aw_icmp_ge (tg := 89) dX5_digest_62 (by decide) (by omega) (fun h62 => absurd h62 (by omega)) (fun h62 => ?_)
    refine aw_ldc2 dX5_digest_65 kcX5_262 ?_
    refine aw_lload_n dX5_digest_68 rfl ?_
    refine aw_lmul dX5_digest_69 ?_
    refine aw_aload_n dX5_digest_70 rfl ?_
    refine aw_getR dX5_digest_71 flX5_10 rfl rfl ?_
    refine aw_iload dX5_digest_74 rfl ?_
    refine aw_iload_n dX5_digest_76 rfl ?_
    refine aw_V2 dX5_digest_77 okX4_districtOf lkX5_123 rfl rfl rfl ?_
    refine tX4_districtOf_d _ hR.1.2.1 (by omega) ?_
    refine aw_i2l dX5_digest_80 (by omega) ?_
    refine aw_ladd dX5_digest_81 ?_
    refine aw_lstore_n (L2 := [_, _, _, _, _]) dX5_digest_82 (by decide) rfl rfl ?_
    refine aw_iinc (L2 := [_, _, _, _, _]) dX5_digest_83 rfl (by decide) rfl rfl ?_
    refine aw_goto (tg := 59) dX5_digest_86 (by decide) ?_
    exact ih (l + 1) _ (by omega) (by omega) (by rw [hI_s h0, eh])
theorem lX5_dg2 (d : Nat) {B : Int} {Z : zZ} {g : sp_G} {Q : sp_P} (hR : cRep g Z) (hV : zV B Z) (hk : ∀ x3 x4 : Option sp_V, sp_nl x3 = true → sp_nl x4 = true → sp_AW mX5_digest (d + 5) 95 [some (v_r 0), some (v_l (zg2 Z)), none, x3, x4] [] g Q) :
    ∀ (n : Nat) (a h : Int) (x4 : Option sp_V), 0 ≤ a → a + n = 24 → h = bI (zp (zt Z)) (zd (zt Z)) (zg1 Z) a → sp_nl x4 = true → sp_AW mX5_digest (d + 5) 33 [some (v_r 0), some (v_l h), none, some (v_i a), x4] [] g Q := by
  intro n
  induction n with
  | zero =>
    intro a h x4 h0 hn eh hx4
    have ee : a = 24 := by omega
    subst ee
    refine aw_iload_n dX5_digest_33 rfl ?_
    refine aw_bipush dX5_digest_34 (by decide) ?_
    refine aw_icmp_ge (tg := 95) dX5_digest_36 (by decide) (by omega) (fun h36 => ?_) (fun h36 => absurd h36 (by omega))
    rw [eh]
    exact hk _ _ rfl hx4
  | succ n ih =>
    intro a h x4 h0 hn eh hx4
    have pb9 := hV.1.1 a (by omega) (by omega)
    have e2 : g 2 a = (zp (zt Z)) a := hR.1.1 a a (by omega) (by omega) (by omega)
    refine aw_iload_n dX5_digest_33 rfl ?_
    refine aw_bipush dX5_digest_34 (by decide) ?_
    refine aw_icmp_ge (tg := 95) dX5_digest_36 (by decide) (by omega) (fun h36 => absurd h36 (by omega)) (fun h36 => ?_)
    refine aw_ldc2 dX5_digest_39 kcX5_262 ?_
    refine aw_lload_n dX5_digest_42 rfl ?_
    refine aw_lmul dX5_digest_43 ?_
    refine aw_aload_n dX5_digest_44 rfl ?_
    refine aw_getR dX5_digest_45 flX5_10 rfl rfl ?_
    refine aw_getRn dX5_digest_48 flX5_113 rfl rfl ?_
    refine aw_iload_n dX5_digest_51 rfl ?_
    refine aw_iald dX5_digest_52 rfl (by omega) ?_
    rw [e2]
    refine aw_i2l dX5_digest_53 (by omega) ?_
    refine aw_ladd dX5_digest_54 ?_
    refine aw_lstore_n (L2 := [_, _, _, _, _]) dX5_digest_55 (by decide) rfl rfl ?_
    refine aw_iconst dX5_digest_56 ?_
    refine aw_istore (L2 := [_, _, _, _, _]) dX5_digest_57 (by decide) rfl rfl ?_
    refine lX5_dg2i _ hR hV (by omega) (fun x4 => ?_) 4 0 _ (by omega) (by omega) rfl
    refine aw_iinc (L2 := [_, _, _, _, _]) dX5_digest_89 rfl (by decide) rfl rfl ?_
    refine aw_goto (tg := 33) dX5_digest_92 (by decide) ?_
    exact ih (a + 1) _ _ (by omega) (by omega) (by rw [bI_s h0, eh]) rfl
theorem lX5_dg1 (d : Nat) {B : Int} {Z : zZ} {g : sp_G} {Q : sp_P} (hR : cRep g Z) (hV : zV B Z) (hB : B ≤ 1000000) (hk : ∀ x3 x4 : Option sp_V, sp_nl x3 = true → sp_nl x4 = true → sp_AW mX5_digest (d + 5) 31 [some (v_r 0), some (v_l (zg1 Z)), none, x3, x4] [] g Q) :
    ∀ (n : Nat) (k h : Int) (x4 : Option sp_V), 0 ≤ k → k + n = 9 → h = hI (zcn Z) 2027 k → sp_nl x4 = true → sp_AW mX5_digest (d + 5) 6 [some (v_r 0), some (v_l h), none, some (v_i k), x4] [] g Q := by
  intro n
  induction n with
  | zero =>
    intro k h x4 h0 hn eh hx4
    have ee : k = 9 := by omega
    subst ee
    refine aw_iload_n dX5_digest_6 rfl ?_
    refine aw_bipush dX5_digest_7 (by decide) ?_
    refine aw_icmp_ge (tg := 31) dX5_digest_9 (by decide) (by omega) (fun h9 => ?_) (fun h9 => absurd h9 (by omega))
    rw [eh]
    exact hk _ _ rfl hx4
  | succ n ih =>
    intro k h x4 h0 hn eh hx4
    have cb := zcn_b (k := k) hV hB (by omega)
    refine aw_iload_n dX5_digest_6 rfl ?_
    refine aw_bipush dX5_digest_7 (by decide) ?_
    refine aw_icmp_ge (tg := 31) dX5_digest_9 (by decide) (by omega) (fun h9 => absurd h9 (by omega)) (fun h9 => ?_)
    refine aw_ldc2 dX5_digest_12 kcX5_262 ?_
    refine aw_lload_n dX5_digest_15 rfl ?_
    refine aw_lmul dX5_digest_16 ?_
    refine aw_aload_n dX5_digest_17 rfl ?_
    refine aw_iload_n dX5_digest_18 rfl ?_
    refine aw_V1 dX5_digest_19 okX5_counter lkX5_257 rfl rfl rfl ?_
    refine tX5_counter _ hR hV (by omega) ?_
    refine aw_i2l dX5_digest_22 (by omega) ?_
    refine aw_ladd dX5_digest_23 ?_
    refine aw_lstore_n (L2 := [_, _, _, _, _]) dX5_digest_24 (by decide) rfl rfl ?_
    refine aw_iinc (L2 := [_, _, _, _, _]) dX5_digest_25 rfl (by decide) rfl rfl ?_
    refine aw_goto (tg := 6) dX5_digest_28 (by decide) ?_
    exact ih (k + 1) _ _ (by omega) (by omega) (by rw [hI_s h0, eh]) hx4
theorem bd_b {y : Int → Int} : 0 ≤ sI (bd y) 24 ∧ sI (bd y) 24 ≤ 48 := by
  have := sI_b (f := bd y) (lo := 0) (hi := 2) (a := 24) (by omega) (fun a a0 a1 => by
    have := sI_01 (f := pF (fun p q => p ≠ q) y a) (a := 2) (by omega) (fun i i0 i1 => by unfold pF; split <;> omega)
    exact this)
  omega
theorem qX5_digest (d : Nat) {B : Int} {Z : zZ} {g : sp_G} {Q : sp_P} (hR : cRep g Z) (hV : zV B Z) (hB : B ≤ 1000000) (h1 : ∀ g2 : sp_G, cRep g2 Z → fMo g g2 → Q (some (v_l (zdg Z))) g2) : sp_Met (d + 8) mX5_digest [v_r 0] g Q := by
  refine sp_of (L := [_, _, _, _, _]) (by decide) (Nat.le_of_ble_eq_true rfl) rfl rfl ?_
  refine aw_ldc2 dX5_digest_0 kcX5_260 ?_
  refine aw_lstore_n (L2 := [_, _, _, _, _]) dX5_digest_3 (by decide) rfl rfl ?_
  refine aw_iconst dX5_digest_4 ?_
  refine aw_istore_n (L2 := [_, _, _, _, _]) dX5_digest_5 (by decide) rfl rfl ?_
  refine lX5_dg1 _ hR hV hB (fun x3 x4 hx3 hx4 => ?_) 9 0 _ _ (by omega) (by omega) rfl rfl
  refine aw_iconst dX5_digest_31 ?_
  refine aw_istore_n (L2 := [_, _, _, _, _]) dX5_digest_32 (by decide) rfl rfl ?_
  refine lX5_dg2 _ hR hV (fun x3 x4 hx3 hx4 => ?_) 24 0 _ _ (by omega) (by omega) rfl hx4
  refine aw_iconst dX5_digest_95 ?_
  refine aw_istore_n (L2 := [_, _, _, _, _]) dX5_digest_96 (by decide) rfl rfl ?_
  refine lX5_dg3 _ hR hV (fun x3 x4 hx3 hx4 => ?_) 4 0 _ _ (by omega) (by omega) rfl hx4
  refine aw_aload_n dX5_digest_142 rfl ?_
  refine aw_V0 dX5_digest_143 okX5_sortStyles lkX5_117 rfl rfl rfl ?_
  refine tX5_sortStyles _ hR hV (fun g1 f1 s1 => ?_)
  have r1 := hR.sc (scF.s f1)
  have m1 := (scF.s f1).m
  have sb := st_b (ky (zo (zt Z)) (zd (zt Z)))
  refine aw_ldc2 dX5_digest_146 kcX5_262 ?_
  refine aw_lload_n dX5_digest_149 rfl ?_
  refine aw_lmul dX5_digest_150 ?_
  refine aw_aload_n dX5_digest_151 rfl ?_
  refine aw_getR dX5_digest_152 flX5_26 rfl rfl ?_
  refine aw_getIn (kz := 5) dX5_digest_155 flX5_148 rfl rfl rfl ?_
  rw [s1.1]
  refine aw_i2l dX5_digest_158 (by omega) ?_
  refine aw_ladd dX5_digest_159 ?_
  refine aw_lstore_n (L2 := [_, _, _, _, _]) dX5_digest_160 (by decide) rfl rfl ?_
  refine aw_ldc2 dX5_digest_161 kcX5_262 ?_
  refine aw_lload_n dX5_digest_164 rfl ?_
  refine aw_lmul dX5_digest_165 ?_
  refine aw_aload_n dX5_digest_166 rfl ?_
  refine aw_getR dX5_digest_167 flX5_26 rfl rfl ?_
  refine aw_V0 dX5_digest_170 okX3_unlikePairs lkX5_177 rfl rfl rfl ?_
  have bb := bd_b (y := (sy (ky (zo (zt Z)) (zd (zt Z))) 24))
  refine tX3_unlikePairs _ s1.2.1 sb.2.2 ?_
  refine aw_i2l dX5_digest_173 (by omega) ?_
  refine aw_ladd dX5_digest_174 ?_
  refine aw_lstore_n (L2 := [_, _, _, _, _]) dX5_digest_175 (by decide) rfl rfl ?_
  refine aw_iconst dX5_digest_176 ?_
  refine aw_istore_n (L2 := [_, _, _, _, _]) dX5_digest_177 (by decide) rfl rfl ?_
  refine lX5_dg6 _ r1 hV s1 (fun g2 hp2 => h1 g2 (r1.sc (scF.p hp2)) (m1.tr (scF.p hp2).m)) ((sc (ky (zo (zt Z)) (zd (zt Z))) 24)).toNat 0 _ _ g1 (by omega) (by omega) rfl pFr.rf hx4
