theorem lX6_leadOf (d : Nat) {B : Int} {Z : zZ} {l e n x : Int} {v : Prop} [Decidable v] {g : sp_G} {Q : sp_P} (hR : mRep g Z) (hV : zV B Z) (hl : 0 ≤ l ∧ l ≤ 3) (he : 0 ≤ e ∧ e ≤ 5) (hn : 0 ≤ n ∧ n ≤ 7) (hx : (x = 0 ∧ v) ∨ (x = 1 ∧ ¬ v)) (hQ : Q (some (v_i (zle Z l e n v))) g) :
    ∀ (k : Nat) (a t : Int), 0 ≤ a → a + k = 24 → t = sI (led (zp (zt Z)) (zd (zt Z)) (zm (zt Z)) l e n v) a → sp_AW mX6_leadOf (d + 3) 6 [some (v_r 52), some (v_i l), some (v_i e), some (v_i n), some (v_i x), some (v_i t), some (v_i a)] [] g Q := by
  intro k
  induction k with
  | zero =>
    intro a t h0 hk et
    have ea : a = 24 := by omega
    subst ea
    refine aw_iload dX6_leadOf_6 rfl ?_
    refine aw_bipush dX6_leadOf_8 (by decide) ?_
    refine aw_icmp_ge (tg := 66) dX6_leadOf_10 (by decide) (by omega) (fun h10 => ?_) (fun h10 => absurd h10 (by omega))
    refine aw_iload dX6_leadOf_66 rfl ?_
    refine aw_iret dX6_leadOf_68 rfl ?_
    rw [et]
    exact hQ
  | succ k ih =>
    intro a t h0 hk et
    have tb := sI_b (f := led (zp (zt Z)) (zd (zt Z)) (zm (zt Z)) l e n v) (lo := 0) (hi := 99) h0 (fun i i0 i1 => by
      have h1 := hV.1.1 i i0 (by omega)
      unfold led
      split
      · split <;> omega
      · omega)
    have zb := zld_b hV hl (a := a) (by omega)
    have pb := hV.1.1 a h0 (by omega)
    have pe9 := hR.pe a a h0 (by omega) (by omega)
    have hs := sI_s (led (zp (zt Z)) (zd (zt Z)) (zm (zt Z)) l e n v) h0
    have hld : (zd (zt Z)) (l * 24 + a) = e → zld Z l a = rk (zd (zt Z)) l e a % (zm (zt Z)) (l * 6 + e) := fun q => by unfold zld; rw [q]
    have hlv : led (zp (zt Z)) (zd (zt Z)) (zm (zt Z)) l e n v a = if (zd (zt Z)) (l * 24 + a) = e ∧ zld Z l a = n then (if v then (zp (zt Z)) a else 1) else 0 := by
      by_cases q : (zd (zt Z)) (l * 24 + a) = e
      · unfold led
        rw [hld q]
      · unfold led
        rw [if_neg (fun k => q k.1), if_neg (fun k => q k.1)]
    rw [hlv] at hs
    refine aw_iload dX6_leadOf_6 rfl ?_
    refine aw_bipush dX6_leadOf_8 (by decide) ?_
    refine aw_icmp_ge (tg := 66) dX6_leadOf_10 (by decide) (by omega) (fun h10 => absurd h10 (by omega)) (fun h10 => ?_)
    refine aw_iload dX6_leadOf_13 rfl ?_
    refine aw_aload_n dX6_leadOf_15 rfl ?_
    refine aw_iload_n dX6_leadOf_16 rfl ?_
    refine aw_iload dX6_leadOf_17 rfl ?_
    refine aw_V2 dX6_leadOf_19 okX6_district lkX6_79 rfl rfl rfl ?_
    refine tX6_district _ hR.di (by omega) ?_
    refine aw_iload_n dX6_leadOf_22 rfl ?_
    refine aw_icmp_ne (tg := 56) dX6_leadOf_23 (by decide) (by omega) (fun h23 => ?_) (fun h23 => ?_)
    · refine aw_iconst dX6_leadOf_56 ?_
      rw [if_neg (fun q => h23 q.1)] at hs
      refine aw_iadd dX6_leadOf_57 ?_
      refine aw_istore (L2 := [_, _, _, _, _, _, _]) dX6_leadOf_58 (by decide) rfl rfl ?_
      refine aw_iinc (L2 := [_, _, _, _, _, _, _]) dX6_leadOf_60 rfl (by decide) rfl rfl ?_
      refine aw_goto (tg := 6) dX6_leadOf_63 (by decide) ?_
      exact ih (a + 1) _ (by omega) (by omega) (by rw [hs, et])
    · refine aw_aload_n dX6_leadOf_26 rfl ?_
      refine aw_iload dX6_leadOf_27 rfl ?_
      refine aw_iload_n dX6_leadOf_29 rfl ?_
      refine aw_V2 dX6_leadOf_30 okX6_leader lkX6_208 rfl rfl rfl ?_
      refine zX6_leader _ hR hV (by omega) hl ?_
      refine aw_iload_n dX6_leadOf_33 rfl ?_
      refine aw_icmp_ne (tg := 56) dX6_leadOf_34 (by decide) (by omega) (fun h34 => ?_) (fun h34 => ?_)
      · refine aw_iconst dX6_leadOf_56 ?_
        rw [if_neg (fun q => h34 q.2)] at hs
        refine aw_iadd dX6_leadOf_57 ?_
        refine aw_istore (L2 := [_, _, _, _, _, _, _]) dX6_leadOf_58 (by decide) rfl rfl ?_
        refine aw_iinc (L2 := [_, _, _, _, _, _, _]) dX6_leadOf_60 rfl (by decide) rfl rfl ?_
        refine aw_goto (tg := 6) dX6_leadOf_63 (by decide) ?_
        exact ih (a + 1) _ (by omega) (by omega) (by rw [hs, et])
      · refine aw_iload dX6_leadOf_37 rfl ?_
        refine aw_if_eq (tg := 46) dX6_leadOf_39 (by decide) (by omega) (fun h39 => ?_) (fun h39 => ?_)
        · refine aw_aload_n dX6_leadOf_46 rfl ?_
          refine aw_getR dX6_leadOf_47 flX6_7 rfl rfl ?_
          refine aw_iload dX6_leadOf_50 rfl ?_
          refine aw_iald dX6_leadOf_52 rfl (by omega) ?_
          rw [pe9]
          refine aw_goto (tg := 57) dX6_leadOf_53 (by decide) ?_
          have hv9 : v := by rcases hx with q | q
                             · exact q.2
                             · exact absurd q.1 (by omega)
          rw [if_pos ⟨by omega, by omega⟩, if_pos hv9] at hs
          refine aw_iadd dX6_leadOf_57 ?_
          refine aw_istore (L2 := [_, _, _, _, _, _, _]) dX6_leadOf_58 (by decide) rfl rfl ?_
          refine aw_iinc (L2 := [_, _, _, _, _, _, _]) dX6_leadOf_60 rfl (by decide) rfl rfl ?_
          refine aw_goto (tg := 6) dX6_leadOf_63 (by decide) ?_
          exact ih (a + 1) _ (by omega) (by omega) (by rw [hs, et])
        · refine aw_iconst dX6_leadOf_42 ?_
          refine aw_goto (tg := 57) dX6_leadOf_43 (by decide) ?_
          have hv9 : ¬ v := by rcases hx with q | q
                               · exact absurd q.1 (by omega)
                               · exact q.2
          rw [if_pos ⟨by omega, by omega⟩, if_neg hv9] at hs
          refine aw_iadd dX6_leadOf_57 ?_
          refine aw_istore (L2 := [_, _, _, _, _, _, _]) dX6_leadOf_58 (by decide) rfl rfl ?_
          refine aw_iinc (L2 := [_, _, _, _, _, _, _]) dX6_leadOf_60 rfl (by decide) rfl rfl ?_
          refine aw_goto (tg := 6) dX6_leadOf_63 (by decide) ?_
          exact ih (a + 1) _ (by omega) (by omega) (by rw [hs, et])
theorem zX6_leadOf (d : Nat) {B : Int} {Z : zZ} {l e n x : Int} {v : Prop} [Decidable v] {g : sp_G} {Q : sp_P} (hR : mRep g Z) (hV : zV B Z) (hl : 0 ≤ l ∧ l ≤ 3) (he : 0 ≤ e ∧ e ≤ 5) (hn : 0 ≤ n ∧ n ≤ 7) (hx : (x = 0 ∧ v) ∨ (x = 1 ∧ ¬ v)) (hQ : Q (some (v_i (zle Z l e n v))) g) : sp_Met (d + 3) mX6_leadOf [v_r 52, v_i l, v_i e, v_i n, v_i x] g Q := by
  refine sp_of (L := [_, _, _, _, _, _, _]) (by decide) (Nat.le_of_ble_eq_true rfl) rfl rfl ?_
  refine aw_iconst dX6_leadOf_0 ?_
  refine aw_istore (L2 := [_, _, _, _, _, _, _]) dX6_leadOf_1 (by decide) rfl rfl ?_
  refine aw_iconst dX6_leadOf_3 ?_
  refine aw_istore (L2 := [_, _, _, _, _, _, _]) dX6_leadOf_4 (by decide) rfl rfl ?_
  exact lX6_leadOf _ hR hV hl he hn hx hQ 24 0 0 (by omega) (by omega) rfl
theorem rX6_lead (d : Nat) {B : Int} {Z : zZ} {l e n : Int} {g : sp_G} {Q : sp_P} (hR : mRep g Z) (hV : zV B Z) (hr : ((-2147483648 ≤ l ∧ l < 2147483648)) ∧ ((-2147483648 ≤ e ∧ e < 2147483648)) ∧ ((-2147483648 ≤ n ∧ n < 2147483648))) (h1 : ((0 ≤ l ∧ l ≤ 3) ∧ (0 ≤ e ∧ e ≤ 5) ∧ (0 ≤ n ∧ n ≤ 7)) → ∀ g2 : sp_G, mRep g2 Z → fCo g g2 → Q (some (v_i (if n < (zm (zt Z)) (l * 6 + e) then zle Z l e n True else -1))) g2) (h2 : ¬ (((0 ≤ l ∧ l ≤ 3) ∧ (0 ≤ e ∧ e ≤ 5) ∧ (0 ≤ n ∧ n ≤ 7))) → ∀ g2 : sp_G, mRep g2 (zr 3 Z) → fCo g g2 → Q (some (v_i (-2))) g2) : sp_Met (d + 8) mX6_lead [v_r 52, v_i l, v_i e, v_i n] g Q := by
  refine sp_of (L := [_, _, _, _]) (by decide) (Nat.le_of_ble_eq_true rfl) rfl rfl ?_
  refine aw_iload_n dX6_lead_0 rfl ?_
  refine aw_S1 dX6_lead_1 okX6_isLayer lkX6_65 rfl ?_
  refine tX6_isLayer _ (by omega) ?_
  refine aw_ifeq_b (tg := 24) dX6_lead_4 (by decide) (fun h4 => ?_) (fun h4 => ?_)
  · refine aw_aload_n dX6_lead_24 rfl ?_
    refine aw_bipush dX6_lead_25 (by decide) ?_
    refine aw_V1 dX6_lead_27 okX6_refuses lkX6_68 rfl rfl rfl ?_
    refine zX6_ref0 _ hR hV (fun g2 r2 c2 => ?_)
    refine aw_iret dX6_lead_30 rfl ?_
    exact h2 (by omega) g2 r2 c2
  · refine aw_iload_n dX6_lead_7 rfl ?_
    refine aw_S1 dX6_lead_8 okX6_isDistrict lkX6_82 rfl ?_
    refine tX6_isDistrict _ (by omega) ?_
    refine aw_ifeq_b (tg := 24) dX6_lead_11 (by decide) (fun h11 => ?_) (fun h11 => ?_)
    · refine aw_aload_n dX6_lead_24 rfl ?_
      refine aw_bipush dX6_lead_25 (by decide) ?_
      refine aw_V1 dX6_lead_27 okX6_refuses lkX6_68 rfl rfl rfl ?_
      refine zX6_ref0 _ hR hV (fun g2 r2 c2 => ?_)
      refine aw_iret dX6_lead_30 rfl ?_
      exact h2 (by omega) g2 r2 c2
    · refine aw_iload_n dX6_lead_14 rfl ?_
      refine aw_iconst dX6_lead_15 ?_
      refine aw_bipush dX6_lead_16 (by decide) ?_
      refine aw_S3 dX6_lead_18 okX6_in lkX6_53 rfl ?_
      refine tX6_in _ (by omega) ?_
      refine aw_ifne_b (tg := 31) dX6_lead_21 (by decide) (fun h21 => ?_) (fun h21 => ?_)
      · refine aw_iload_n dX6_lead_31 rfl ?_
        refine aw_aload_n dX6_lead_32 rfl ?_
        refine aw_iload_n dX6_lead_33 rfl ?_
        refine aw_iload_n dX6_lead_34 rfl ?_
        refine aw_V2 dX6_lead_35 okX6_namesOf lkX6_179 rfl rfl rfl ?_
        have hnb := hV.1.2.2.1 (l * 6 + e) (by omega) (by omega)
        refine tX6_namesOf _ hR.na (by omega) ?_
        refine aw_icmp_ge (tg := 52) dX6_lead_38 (by decide) (by omega) (fun h38 => ?_) (fun h38 => ?_)
        · refine aw_iconst dX6_lead_52 ?_
          refine aw_iret dX6_lead_53 rfl ?_
          have e9 := h1 (by omega) g hR fCo.rf
          rwa [if_neg (by omega)] at e9
        · refine aw_aload_n dX6_lead_41 rfl ?_
          refine aw_iload_n dX6_lead_42 rfl ?_
          refine aw_iload_n dX6_lead_43 rfl ?_
          refine aw_iload_n dX6_lead_44 rfl ?_
          refine aw_iconst dX6_lead_45 ?_
          refine aw_V4 dX6_lead_46 okX6_leadOf lkX6_211 rfl rfl rfl ?_
          refine zX6_leadOf (v := True) _ hR hV (by omega) (by omega) (by omega) (Or.inl ⟨rfl, trivial⟩) ?_
          refine aw_goto (tg := 53) dX6_lead_49 (by decide) ?_
          refine aw_iret dX6_lead_53 rfl ?_
          have e9 := h1 (by omega) g hR fCo.rf
          rwa [if_pos (by omega)] at e9
      · refine aw_aload_n dX6_lead_24 rfl ?_
        refine aw_bipush dX6_lead_25 (by decide) ?_
        refine aw_V1 dX6_lead_27 okX6_refuses lkX6_68 rfl rfl rfl ?_
        refine zX6_ref0 _ hR hV (fun g2 r2 c2 => ?_)
        refine aw_iret dX6_lead_30 rfl ?_
        exact h2 (by omega) g2 r2 c2
theorem lX6_fair (d : Nat) {B : Int} {Z : zZ} {l e what : Int} {v : Prop} [Decidable v] {g : sp_G} {Q : sp_P} (hR : mRep g Z) (hV : zV B Z) (hl : 0 ≤ l ∧ l ≤ 3) (he : 0 ≤ e ∧ e ≤ 5) (hw : (what = 1 ∧ v) ∨ (what = 0 ∧ ¬ v)) (hQ : Q (some (v_i (mx (fun n => zle Z l e n v) ((zm (zt Z)) (l * 6 + e)) - mn (fun n => zle Z l e n v) ((zm (zt Z)) (l * 6 + e))))) g) :
    ∀ (k : Nat) (n most few : Int) (x : Option sp_V), 0 ≤ n → n + k = (zm (zt Z)) (l * 6 + e) → ((n = 0 ∧ most = 0 ∧ few = 99999) ∨ (1 ≤ n ∧ most = mx (fun n => zle Z l e n v) n ∧ few = mn (fun n => zle Z l e n v) n)) → sp_AW mX6_fair (d + 4) 40 [some (v_r 52), some (v_i l), some (v_i e), some (v_i what), some (v_i most), some (v_i few), some (v_i n), x] [] g Q := by
  have hnb := hV.1.2.2.1 (l * 6 + e) (by omega) (by omega)
  have hlb : ∀ i, 0 ≤ (fun n => zle Z l e n v) i ∧ (fun n => zle Z l e n v) i ≤ 2376 := fun i => zle_b hV
  have hmb : ∀ n most few : Int, ((n = 0 ∧ most = 0 ∧ few = 99999) ∨ (1 ≤ n ∧ most = mx (fun n => zle Z l e n v) n ∧ few = mn (fun n => zle Z l e n v) n)) → (0 ≤ most ∧ most ≤ 2376) ∧ (0 ≤ few ∧ few ≤ 99999) := by
    intro n most few h
    have b1 : 0 ≤ mx (fun n => zle Z l e n v) n ∧ mx (fun n => zle Z l e n v) n ≤ 2376 := mxN_b hlb _
    have b2 : 0 ≤ mn (fun n => zle Z l e n v) n ∧ mn (fun n => zle Z l e n v) n ≤ 2376 := mnN_b hlb _
    omega
  intro k
  induction k with
  | zero =>
    intro n most few x h0 hn hi
    have hb := hmb _ _ _ hi
    have en : n = (zm (zt Z)) (l * 6 + e) := by omega
    have hi2 : most = mx (fun n => zle Z l e n v) ((zm (zt Z)) (l * 6 + e)) ∧ few = mn (fun n => zle Z l e n v) ((zm (zt Z)) (l * 6 + e)) := by
      rw [← en]
      rcases hi with q | q
      · omega
      · exact q.2
    refine aw_iload dX6_fair_40 rfl ?_
    refine aw_aload_n dX6_fair_42 rfl ?_
    refine aw_iload_n dX6_fair_43 rfl ?_
    refine aw_iload_n dX6_fair_44 rfl ?_
    refine aw_V2 dX6_fair_45 okX6_namesOf lkX6_179 rfl rfl rfl ?_
    refine tX6_namesOf _ hR.na (by omega) ?_
    refine aw_icmp_ge (tg := 108) dX6_fair_48 (by decide) (by omega) (fun h48 => ?_) (fun h48 => absurd h48 (by omega))
    refine aw_iload dX6_fair_108 rfl ?_
    refine aw_iload dX6_fair_110 rfl ?_
    refine aw_isub dX6_fair_112 ?_
    refine aw_iret dX6_fair_113 rfl ?_
    rw [hi2.1, hi2.2]
    exact hQ
  | succ k ih =>
    intro n most few x h0 hn hi
    have hb := hmb _ _ _ hi
    have b3 : 0 ≤ zle Z l e n v ∧ zle Z l e n v ≤ 2376 := zle_b hV
    have key : mx (fun n => zle Z l e n v) (n + 1) = (if most < zle Z l e n v then zle Z l e n v else most) ∧ mn (fun n => zle Z l e n v) (n + 1) = (if zle Z l e n v < few then zle Z l e n v else few) := by
      rcases hi with ⟨q1, q2, q3⟩ | ⟨q1, q2, q3⟩
      · subst q1
        have m1 : mx (fun n => zle Z l e n v) (0 + 1) = zle Z l e 0 v := mx_1 (fun n => zle Z l e n v)
        have m2 : mn (fun n => zle Z l e n v) (0 + 1) = zle Z l e 0 v := mn_1 (fun n => zle Z l e n v)
        rw [m1, m2, q2, q3]
        constructor
        · split <;> omega
        · rw [if_pos (by omega)]
      · rw [mx_s h0, mn_s h0, q2, q3]
        exact ⟨rfl, rfl⟩
    have hled : ∀ (x : Int) (R : sp_P), ((x = 0 ∧ v) ∨ (x = 1 ∧ ¬ v)) → R (some (v_i (zle Z l e n v))) g → sp_Met (d + 3) mX6_leadOf [v_r 52, v_i l, v_i e, v_i n, v_i x] g R := fun x R ex hR9 => zX6_leadOf _ hR hV hl he (by omega) ex hR9
    generalize zle Z l e n v = y at *
    refine aw_iload dX6_fair_40 rfl ?_
    refine aw_aload_n dX6_fair_42 rfl ?_
    refine aw_iload_n dX6_fair_43 rfl ?_
    refine aw_iload_n dX6_fair_44 rfl ?_
    refine aw_V2 dX6_fair_45 okX6_namesOf lkX6_179 rfl rfl rfl ?_
    refine tX6_namesOf _ hR.na (by omega) ?_
    refine aw_icmp_ge (tg := 108) dX6_fair_48 (by decide) (by omega) (fun h48 => absurd h48 (by omega)) (fun h48 => ?_)
    refine aw_aload_n dX6_fair_51 rfl ?_
    refine aw_iload_n dX6_fair_52 rfl ?_
    refine aw_iload_n dX6_fair_53 rfl ?_
    refine aw_iload dX6_fair_54 rfl ?_
    refine aw_iload_n dX6_fair_56 rfl ?_
    refine aw_if_ne (tg := 64) dX6_fair_57 (by decide) (by omega) (fun h57 => ?_) (fun h57 => ?_)
    · refine aw_iconst dX6_fair_64 ?_
      have hw9 : what = 1 := by omega
      refine aw_V4 dX6_fair_65 okX6_leadOf lkX6_211 rfl rfl rfl ?_
      refine hled _ _ (by rcases hw with q | q <;> first | exact Or.inl ⟨rfl, q.2⟩ | (exfalso; omega)) ?_
      refine aw_istore (L2 := [_, _, _, _, _, _, _, _]) dX6_fair_68 (by decide) rfl rfl ?_
      refine aw_iload dX6_fair_70 rfl ?_
      refine aw_iload dX6_fair_72 rfl ?_
      refine aw_icmp_le (tg := 82) dX6_fair_74 (by decide) (by omega) (fun j74 => ?_) (fun j74 => ?_)
      · refine aw_iload dX6_fair_82 rfl ?_
        refine aw_istore (L2 := [_, _, _, _, _, _, _, _]) dX6_fair_84 (by decide) rfl rfl ?_
        refine aw_iload dX6_fair_86 rfl ?_
        refine aw_iload dX6_fair_88 rfl ?_
        refine aw_icmp_ge (tg := 98) dX6_fair_90 (by decide) (by omega) (fun j90 => ?_) (fun j90 => ?_)
        · refine aw_iload dX6_fair_98 rfl ?_
          refine aw_istore (L2 := [_, _, _, _, _, _, _, _]) dX6_fair_100 (by decide) rfl rfl ?_
          refine aw_iinc (L2 := [_, _, _, _, _, _, _, _]) dX6_fair_102 rfl (by decide) rfl rfl ?_
          refine aw_goto (tg := 40) dX6_fair_105 (by decide) ?_
          refine ih (n + 1) _ _ _ (by omega) (by omega) (Or.inr ⟨by omega, ?_, ?_⟩)
          · rw [key.1]; split <;> omega
          · rw [key.2]; split <;> omega
        · refine aw_iload dX6_fair_93 rfl ?_
          refine aw_goto (tg := 100) dX6_fair_95 (by decide) ?_
          refine aw_istore (L2 := [_, _, _, _, _, _, _, _]) dX6_fair_100 (by decide) rfl rfl ?_
          refine aw_iinc (L2 := [_, _, _, _, _, _, _, _]) dX6_fair_102 rfl (by decide) rfl rfl ?_
          refine aw_goto (tg := 40) dX6_fair_105 (by decide) ?_
          refine ih (n + 1) _ _ _ (by omega) (by omega) (Or.inr ⟨by omega, ?_, ?_⟩)
          · rw [key.1]; split <;> omega
          · rw [key.2]; split <;> omega
      · refine aw_iload dX6_fair_77 rfl ?_
        refine aw_goto (tg := 84) dX6_fair_79 (by decide) ?_
        refine aw_istore (L2 := [_, _, _, _, _, _, _, _]) dX6_fair_84 (by decide) rfl rfl ?_
        refine aw_iload dX6_fair_86 rfl ?_
        refine aw_iload dX6_fair_88 rfl ?_
        refine aw_icmp_ge (tg := 98) dX6_fair_90 (by decide) (by omega) (fun j90 => ?_) (fun j90 => ?_)
        · refine aw_iload dX6_fair_98 rfl ?_
          refine aw_istore (L2 := [_, _, _, _, _, _, _, _]) dX6_fair_100 (by decide) rfl rfl ?_
          refine aw_iinc (L2 := [_, _, _, _, _, _, _, _]) dX6_fair_102 rfl (by decide) rfl rfl ?_
          refine aw_goto (tg := 40) dX6_fair_105 (by decide) ?_
          refine ih (n + 1) _ _ _ (by omega) (by omega) (Or.inr ⟨by omega, ?_, ?_⟩)
          · rw [key.1]; split <;> omega
          · rw [key.2]; split <;> omega
        · refine aw_iload dX6_fair_93 rfl ?_
          refine aw_goto (tg := 100) dX6_fair_95 (by decide) ?_
          refine aw_istore (L2 := [_, _, _, _, _, _, _, _]) dX6_fair_100 (by decide) rfl rfl ?_
          refine aw_iinc (L2 := [_, _, _, _, _, _, _, _]) dX6_fair_102 rfl (by decide) rfl rfl ?_
          refine aw_goto (tg := 40) dX6_fair_105 (by decide) ?_
          refine ih (n + 1) _ _ _ (by omega) (by omega) (Or.inr ⟨by omega, ?_, ?_⟩)
          · rw [key.1]; split <;> omega
          · rw [key.2]; split <;> omega
    · refine aw_iconst dX6_fair_60 ?_
      refine aw_goto (tg := 65) dX6_fair_61 (by decide) ?_
      have hw9 : what = 0 := by omega
      refine aw_V4 dX6_fair_65 okX6_leadOf lkX6_211 rfl rfl rfl ?_
      refine hled _ _ (by rcases hw with q | q <;> first | exact Or.inr ⟨rfl, q.2⟩ | (exfalso; omega)) ?_
      refine aw_istore (L2 := [_, _, _, _, _, _, _, _]) dX6_fair_68 (by decide) rfl rfl ?_
      refine aw_iload dX6_fair_70 rfl ?_
      refine aw_iload dX6_fair_72 rfl ?_
      refine aw_icmp_le (tg := 82) dX6_fair_74 (by decide) (by omega) (fun j74 => ?_) (fun j74 => ?_)
      · refine aw_iload dX6_fair_82 rfl ?_
        refine aw_istore (L2 := [_, _, _, _, _, _, _, _]) dX6_fair_84 (by decide) rfl rfl ?_
        refine aw_iload dX6_fair_86 rfl ?_
        refine aw_iload dX6_fair_88 rfl ?_
        refine aw_icmp_ge (tg := 98) dX6_fair_90 (by decide) (by omega) (fun j90 => ?_) (fun j90 => ?_)
        · refine aw_iload dX6_fair_98 rfl ?_
          refine aw_istore (L2 := [_, _, _, _, _, _, _, _]) dX6_fair_100 (by decide) rfl rfl ?_
          refine aw_iinc (L2 := [_, _, _, _, _, _, _, _]) dX6_fair_102 rfl (by decide) rfl rfl ?_
          refine aw_goto (tg := 40) dX6_fair_105 (by decide) ?_
          refine ih (n + 1) _ _ _ (by omega) (by omega) (Or.inr ⟨by omega, ?_, ?_⟩)
          · rw [key.1]; split <;> omega
          · rw [key.2]; split <;> omega
        · refine aw_iload dX6_fair_93 rfl ?_
          refine aw_goto (tg := 100) dX6_fair_95 (by decide) ?_
          refine aw_istore (L2 := [_, _, _, _, _, _, _, _]) dX6_fair_100 (by decide) rfl rfl ?_
          refine aw_iinc (L2 := [_, _, _, _, _, _, _, _]) dX6_fair_102 rfl (by decide) rfl rfl ?_
          refine aw_goto (tg := 40) dX6_fair_105 (by decide) ?_
          refine ih (n + 1) _ _ _ (by omega) (by omega) (Or.inr ⟨by omega, ?_, ?_⟩)
          · rw [key.1]; split <;> omega
          · rw [key.2]; split <;> omega
      · refine aw_iload dX6_fair_77 rfl ?_
        refine aw_goto (tg := 84) dX6_fair_79 (by decide) ?_
        refine aw_istore (L2 := [_, _, _, _, _, _, _, _]) dX6_fair_84 (by decide) rfl rfl ?_
        refine aw_iload dX6_fair_86 rfl ?_
        refine aw_iload dX6_fair_88 rfl ?_
        refine aw_icmp_ge (tg := 98) dX6_fair_90 (by decide) (by omega) (fun j90 => ?_) (fun j90 => ?_)
        · refine aw_iload dX6_fair_98 rfl ?_
          refine aw_istore (L2 := [_, _, _, _, _, _, _, _]) dX6_fair_100 (by decide) rfl rfl ?_
          refine aw_iinc (L2 := [_, _, _, _, _, _, _, _]) dX6_fair_102 rfl (by decide) rfl rfl ?_
          refine aw_goto (tg := 40) dX6_fair_105 (by decide) ?_
          refine ih (n + 1) _ _ _ (by omega) (by omega) (Or.inr ⟨by omega, ?_, ?_⟩)
          · rw [key.1]; split <;> omega
          · rw [key.2]; split <;> omega
        · refine aw_iload dX6_fair_93 rfl ?_
          refine aw_goto (tg := 100) dX6_fair_95 (by decide) ?_
          refine aw_istore (L2 := [_, _, _, _, _, _, _, _]) dX6_fair_100 (by decide) rfl rfl ?_
          refine aw_iinc (L2 := [_, _, _, _, _, _, _, _]) dX6_fair_102 rfl (by decide) rfl rfl ?_
          refine aw_goto (tg := 40) dX6_fair_105 (by decide) ?_
          refine ih (n + 1) _ _ _ (by omega) (by omega) (Or.inr ⟨by omega, ?_, ?_⟩)
          · rw [key.1]; split <;> omega
          · rw [key.2]; split <;> omega
theorem rX6_fair (d : Nat) {B : Int} {Z : zZ} {l e what : Int} {g : sp_G} {Q : sp_P} (hR : mRep g Z) (hV : zV B Z) (hr : ((-2147483648 ≤ l ∧ l < 2147483648)) ∧ ((-2147483648 ≤ e ∧ e < 2147483648)) ∧ ((-2147483648 ≤ what ∧ what < 2147483648))) (h1 : ((0 ≤ l ∧ l ≤ 3) ∧ (0 ≤ e ∧ e ≤ 5) ∧ (0 ≤ what ∧ what ≤ 1)) → ∀ g2 : sp_G, mRep g2 Z → fCo g g2 → Q (some (v_i (zfa Z l e what))) g2) (h2 : ¬ (((0 ≤ l ∧ l ≤ 3) ∧ (0 ≤ e ∧ e ≤ 5) ∧ (0 ≤ what ∧ what ≤ 1))) → ∀ g2 : sp_G, mRep g2 (zr 3 Z) → fCo g g2 → Q (some (v_i (-2))) g2) : sp_Met (d + 8) mX6_fair [v_r 52, v_i l, v_i e, v_i what] g Q := by
  refine sp_of (L := [_, _, _, _, _, _, _, _]) (by decide) (Nat.le_of_ble_eq_true rfl) rfl rfl ?_
  refine aw_iload_n dX6_fair_0 rfl ?_
  refine aw_S1 dX6_fair_1 okX6_isLayer lkX6_65 rfl ?_
  refine tX6_isLayer _ (by omega) ?_
  refine aw_ifeq_b (tg := 23) dX6_fair_4 (by decide) (fun h4 => ?_) (fun h4 => ?_)
  · refine aw_aload_n dX6_fair_23 rfl ?_
    refine aw_bipush dX6_fair_24 (by decide) ?_
    refine aw_V1 dX6_fair_26 okX6_refuses lkX6_68 rfl rfl rfl ?_
    refine zX6_ref0 _ hR hV (fun g2 r2 c2 => ?_)
    refine aw_iret dX6_fair_29 rfl ?_
    exact h2 (by omega) g2 r2 c2
  · refine aw_iload_n dX6_fair_7 rfl ?_
    refine aw_S1 dX6_fair_8 okX6_isDistrict lkX6_82 rfl ?_
    refine tX6_isDistrict _ (by omega) ?_
    refine aw_ifeq_b (tg := 23) dX6_fair_11 (by decide) (fun h11 => ?_) (fun h11 => ?_)
    · refine aw_aload_n dX6_fair_23 rfl ?_
      refine aw_bipush dX6_fair_24 (by decide) ?_
      refine aw_V1 dX6_fair_26 okX6_refuses lkX6_68 rfl rfl rfl ?_
      refine zX6_ref0 _ hR hV (fun g2 r2 c2 => ?_)
      refine aw_iret dX6_fair_29 rfl ?_
      exact h2 (by omega) g2 r2 c2
    · refine aw_iload_n dX6_fair_14 rfl ?_
      refine aw_iconst dX6_fair_15 ?_
      refine aw_iconst dX6_fair_16 ?_
      refine aw_S3 dX6_fair_17 okX6_in lkX6_53 rfl ?_
      refine tX6_in _ (by omega) ?_
      refine aw_ifne_b (tg := 30) dX6_fair_20 (by decide) (fun h20 => ?_) (fun h20 => ?_)
      · refine aw_iconst dX6_fair_30 ?_
        refine aw_istore (L2 := [_, _, _, _, _, _, _, _]) dX6_fair_31 (by decide) rfl rfl ?_
        refine aw_ldc dX6_fair_33 kcX6_215 ?_
        refine aw_istore (L2 := [_, _, _, _, _, _, _, _]) dX6_fair_35 (by decide) rfl rfl ?_
        refine aw_iconst dX6_fair_37 ?_
        refine aw_istore (L2 := [_, _, _, _, _, _, _, _]) dX6_fair_38 (by decide) rfl rfl ?_
        have e9 := h1 (by omega) g hR fCo.rf
        have hnb := hV.1.2.2.1 (l * 6 + e) (by omega) (by omega)
        unfold zfa at e9
        by_cases q : what = 1
        · rw [if_pos q] at e9
          exact lX6_fair (v := True) _ hR hV (by omega) (by omega) (Or.inl ⟨q, trivial⟩) e9 ((zm (zt Z)) (l * 6 + e)).toNat 0 _ _ _ (by omega) (by omega) (Or.inl ⟨rfl, rfl, rfl⟩)
        · rw [if_neg q] at e9
          exact lX6_fair (v := False) _ hR hV (by omega) (by omega) (Or.inr ⟨by omega, fun h => h⟩) e9 ((zm (zt Z)) (l * 6 + e)).toNat 0 _ _ _ (by omega) (by omega) (Or.inl ⟨rfl, rfl, rfl⟩)
      · refine aw_aload_n dX6_fair_23 rfl ?_
        refine aw_bipush dX6_fair_24 (by decide) ?_
        refine aw_V1 dX6_fair_26 okX6_refuses lkX6_68 rfl rfl rfl ?_
        refine zX6_ref0 _ hR hV (fun g2 r2 c2 => ?_)
        refine aw_iret dX6_fair_29 rfl ?_
        exact h2 (by omega) g2 r2 c2
theorem rX6_place (d : Nat) {B : Int} {Z : zZ} {a l n : Int} {g : sp_G} {Q : sp_P} (hR : mRep g Z) (hV : zV B Z) (hr : ((-2147483648 ≤ a ∧ a < 2147483648)) ∧ ((-2147483648 ≤ l ∧ l < 2147483648)) ∧ ((-2147483648 ≤ n ∧ n < 2147483648))) (h1 : ((0 ≤ a ∧ a ≤ 23) ∧ (0 ≤ l ∧ l ≤ 3) ∧ (0 ≤ n ∧ n ≤ 7)) → ∀ g2 : sp_G, mRep g2 Z → fCo g g2 → Q (some (v_i (zpl Z a l n))) g2) (h2 : ¬ (((0 ≤ a ∧ a ≤ 23) ∧ (0 ≤ l ∧ l ≤ 3) ∧ (0 ≤ n ∧ n ≤ 7))) → ∀ g2 : sp_G, mRep g2 (zr 3 Z) → fCo g g2 → Q (some (v_i (-2))) g2) : sp_Met (d + 8) mX6_place [v_r 52, v_i a, v_i l, v_i n] g Q := by
  refine sp_of (L := [_, _, _, _, _]) (by decide) (Nat.le_of_ble_eq_true rfl) rfl rfl ?_
  refine aw_iload_n dX6_place_0 rfl ?_
  refine aw_S1 dX6_place_1 okX6_isBlock lkX6_85 rfl ?_
  refine tX6_isBlock _ (by omega) ?_
  refine aw_ifeq_b (tg := 24) dX6_place_4 (by decide) (fun h4 => ?_) (fun h4 => ?_)
  · refine aw_aload_n dX6_place_24 rfl ?_
    refine aw_bipush dX6_place_25 (by decide) ?_
    refine aw_V1 dX6_place_27 okX6_refuses lkX6_68 rfl rfl rfl ?_
    refine zX6_ref0 _ hR hV (fun g2 r2 c2 => ?_)
    refine aw_iret dX6_place_30 rfl ?_
    exact h2 (by omega) g2 r2 c2
  · refine aw_iload_n dX6_place_7 rfl ?_
    refine aw_S1 dX6_place_8 okX6_isLayer lkX6_65 rfl ?_
    refine tX6_isLayer _ (by omega) ?_
    refine aw_ifeq_b (tg := 24) dX6_place_11 (by decide) (fun h11 => ?_) (fun h11 => ?_)
    · refine aw_aload_n dX6_place_24 rfl ?_
      refine aw_bipush dX6_place_25 (by decide) ?_
      refine aw_V1 dX6_place_27 okX6_refuses lkX6_68 rfl rfl rfl ?_
      refine zX6_ref0 _ hR hV (fun g2 r2 c2 => ?_)
      refine aw_iret dX6_place_30 rfl ?_
      exact h2 (by omega) g2 r2 c2
    · refine aw_iload_n dX6_place_14 rfl ?_
      refine aw_iconst dX6_place_15 ?_
      refine aw_bipush dX6_place_16 (by decide) ?_
      refine aw_S3 dX6_place_18 okX6_in lkX6_53 rfl ?_
      refine tX6_in _ (by omega) ?_
      refine aw_ifne_b (tg := 31) dX6_place_21 (by decide) (fun h21 => ?_) (fun h21 => ?_)
      · refine aw_aload_n dX6_place_31 rfl ?_
        refine aw_iload_n dX6_place_32 rfl ?_
        refine aw_aload_n dX6_place_33 rfl ?_
        refine aw_iload_n dX6_place_34 rfl ?_
        refine aw_iload_n dX6_place_35 rfl ?_
        refine aw_V2 dX6_place_36 okX6_district lkX6_79 rfl rfl rfl ?_
        have zb := zld_b hV (l := l) (a := a) (by omega) (by omega)
        refine tX6_district _ hR.di (by omega) ?_
        refine aw_V2 dX6_place_39 okX6_namesOf lkX6_179 rfl rfl rfl ?_
        refine tX6_namesOf _ hR.na (by omega) ?_
        refine aw_istore (L2 := [_, _, _, _, _]) dX6_place_42 (by decide) rfl rfl ?_
        refine aw_aload_n dX6_place_44 rfl ?_
        refine aw_iload_n dX6_place_45 rfl ?_
        refine aw_V1 dX6_place_46 okX6_isOn lkX6_61 rfl rfl rfl ?_
        refine tX6_isOn _ hR.on (bt_01 (on := (zo (zt Z))) (l := l) hV.1.2.2.2 (by omega)) ?_
        refine aw_ifeq_b (tg := 75) dX6_place_49 (by decide) (fun h49 => ?_) (fun h49 => ?_)
        · refine aw_iconst dX6_place_75 ?_
          refine aw_iret dX6_place_76 rfl ?_
          have e9 := h1 (by omega) g hR fCo.rf
          unfold zpl at e9
          rwa [if_neg (fun q => h49 q.1)] at e9
        · refine aw_iload_n dX6_place_52 rfl ?_
          refine aw_iload dX6_place_53 rfl ?_
          refine aw_icmp_ge (tg := 75) dX6_place_55 (by decide) (by omega) (fun h55 => ?_) (fun h55 => ?_)
          · refine aw_iconst dX6_place_75 ?_
            refine aw_iret dX6_place_76 rfl ?_
            have e9 := h1 (by omega) g hR fCo.rf
            unfold zpl at e9
            rwa [if_neg (fun q => by omega)] at e9
          · refine aw_iload_n dX6_place_58 rfl ?_
            refine aw_iload dX6_place_59 rfl ?_
            refine aw_iadd dX6_place_61 ?_
            refine aw_aload_n dX6_place_62 rfl ?_
            refine aw_iload_n dX6_place_63 rfl ?_
            refine aw_iload_n dX6_place_64 rfl ?_
            refine aw_V2 dX6_place_65 okX6_leader lkX6_208 rfl rfl rfl ?_
            refine zX6_leader _ hR hV (by omega) (by omega) ?_
            refine aw_isub dX6_place_68 ?_
            refine aw_iload dX6_place_69 rfl ?_
            refine aw_irem dX6_place_71 (by omega) ?_
            refine aw_goto (tg := 76) dX6_place_72 (by decide) ?_
            refine aw_iret dX6_place_76 rfl ?_
            have e9 := h1 (by omega) g hR fCo.rf
            unfold zpl at e9
            rwa [if_pos ⟨h49, by omega⟩] at e9
      · refine aw_aload_n dX6_place_24 rfl ?_
        refine aw_bipush dX6_place_25 (by decide) ?_
        refine aw_V1 dX6_place_27 okX6_refuses lkX6_68 rfl rfl rfl ?_
        refine zX6_ref0 _ hR hV (fun g2 r2 c2 => ?_)
        refine aw_iret dX6_place_30 rfl ?_
        exact h2 (by omega) g2 r2 c2
theorem zX6_toldOf (d : Nat) {B : Int} {Z : zZ} {k : Int} {g : sp_G} {Q : sp_P} (hR : mRep g Z) (hV : zV B Z) (hk : 0 ≤ k ∧ k ≤ 8) (hQ : Q (some (v_i (zcn Z k))) g) : sp_Met d mX6_toldOf [v_r 52, v_i k] g Q := by
  refine sp_of (L := [_, _]) (by decide) (Nat.le_of_ble_eq_true rfl) rfl rfl ?_
  refine aw_iload_n dX6_toldOf_0 rfl ?_
  rcases (show k = 0 ∨ k = 1 ∨ k = 2 ∨ k = 3 ∨ k = 4 ∨ k = 5 ∨ k = 6 ∨ k = 7 ∨ k = 8 by omega) with h9 | h9 | h9 | h9 | h9 | h9 | h9 | h9 | h9
  · subst h9
    refine aw_tin (tg := 52) dX6_toldOf_1 (by omega) (by omega) rfl (by decide) ?_
    refine aw_aload_n dX6_toldOf_52 rfl ?_
    refine aw_getR dX6_toldOf_53 flX6_19 rfl rfl ?_
    refine aw_iload_n dX6_toldOf_56 rfl ?_
    refine aw_iald dX6_toldOf_57 rfl (by omega) ?_
    refine aw_iret dX6_toldOf_58 rfl ?_
    rw [hR.2.2.2.2.1.1]
    exact hQ
  · subst h9
    refine aw_tin (tg := 52) dX6_toldOf_1 (by omega) (by omega) rfl (by decide) ?_
    refine aw_aload_n dX6_toldOf_52 rfl ?_
    refine aw_getR dX6_toldOf_53 flX6_19 rfl rfl ?_
    refine aw_iload_n dX6_toldOf_56 rfl ?_
    refine aw_iald dX6_toldOf_57 rfl (by omega) ?_
    refine aw_iret dX6_toldOf_58 rfl ?_
    rw [hR.2.2.2.2.1.2.1]
    exact hQ
  · subst h9
    refine aw_tin (tg := 52) dX6_toldOf_1 (by omega) (by omega) rfl (by decide) ?_
    refine aw_aload_n dX6_toldOf_52 rfl ?_
    refine aw_getR dX6_toldOf_53 flX6_19 rfl rfl ?_
    refine aw_iload_n dX6_toldOf_56 rfl ?_
    refine aw_iald dX6_toldOf_57 rfl (by omega) ?_
    refine aw_iret dX6_toldOf_58 rfl ?_
    rw [hR.2.2.2.2.1.2.2]
    exact hQ
  · subst h9
    refine aw_tin (tg := 59) dX6_toldOf_1 (by omega) (by omega) rfl (by decide) ?_
    refine aw_aload_n dX6_toldOf_59 rfl ?_
    refine aw_getI (kz := 6) dX6_toldOf_60 flX6_115 rfl rfl rfl ?_
    refine aw_iret dX6_toldOf_63 rfl ?_
    rw [hR.2.2.2.2.2.1]
    exact hQ
  · subst h9
    refine aw_tin (tg := 78) dX6_toldOf_1 (by omega) (by omega) rfl (by decide) ?_
    refine aw_aload_n dX6_toldOf_78 rfl ?_
    refine aw_getR dX6_toldOf_79 flX6_16 rfl rfl ?_
    refine aw_iload_n dX6_toldOf_82 rfl ?_
    refine aw_iconst dX6_toldOf_83 ?_
    refine aw_isub dX6_toldOf_84 ?_
    refine aw_iald dX6_toldOf_85 rfl (by omega) ?_
    refine aw_iret dX6_toldOf_86 rfl ?_
    rw [show g 55 (4 - 4) = _ from hR.2.2.2.1.1]
    exact hQ
  · subst h9
    refine aw_tin (tg := 78) dX6_toldOf_1 (by omega) (by omega) rfl (by decide) ?_
    refine aw_aload_n dX6_toldOf_78 rfl ?_
    refine aw_getR dX6_toldOf_79 flX6_16 rfl rfl ?_
    refine aw_iload_n dX6_toldOf_82 rfl ?_
    refine aw_iconst dX6_toldOf_83 ?_
    refine aw_isub dX6_toldOf_84 ?_
    refine aw_iald dX6_toldOf_85 rfl (by omega) ?_
    refine aw_iret dX6_toldOf_86 rfl ?_
    rw [show g 55 (5 - 4) = _ from hR.2.2.2.1.2.1]
    exact hQ
  · subst h9
    refine aw_tin (tg := 78) dX6_toldOf_1 (by omega) (by omega) rfl (by decide) ?_
    refine aw_aload_n dX6_toldOf_78 rfl ?_
    refine aw_getR dX6_toldOf_79 flX6_16 rfl rfl ?_
    refine aw_iload_n dX6_toldOf_82 rfl ?_
    refine aw_iconst dX6_toldOf_83 ?_
    refine aw_isub dX6_toldOf_84 ?_
    refine aw_iald dX6_toldOf_85 rfl (by omega) ?_
    refine aw_iret dX6_toldOf_86 rfl ?_
    rw [show g 55 (6 - 4) = _ from hR.2.2.2.1.2.2]
    exact hQ
  · subst h9
    refine aw_tin (tg := 64) dX6_toldOf_1 (by omega) (by omega) rfl (by decide) ?_
    refine aw_aload_n dX6_toldOf_64 rfl ?_
    refine aw_getR dX6_toldOf_65 flX6_7 rfl rfl ?_
    refine aw_sipush dX6_toldOf_68 (by decide) ?_
    refine aw_iald dX6_toldOf_71 rfl (by omega) ?_
    refine aw_iret dX6_toldOf_72 rfl ?_
    rw [hR.on]
    exact hQ
  · subst h9
    refine aw_tin (tg := 73) dX6_toldOf_1 (by omega) (by omega) rfl (by decide) ?_
    refine aw_aload_n dX6_toldOf_73 rfl ?_
    refine aw_getI (kz := 2) dX6_toldOf_74 flX6_57 rfl rfl rfl ?_
    refine aw_iret dX6_toldOf_77 rfl ?_
    rw [hR.2.1]
    exact hQ
theorem rX6_told (d : Nat) {B : Int} {Z : zZ} {k : Int} {g : sp_G} {Q : sp_P} (hR : mRep g Z) (hV : zV B Z) (hr : (-2147483648 ≤ k ∧ k < 2147483648)) (h1 : (0 ≤ k ∧ k ≤ 8) → ∀ g2 : sp_G, mRep g2 Z → fCo g g2 → Q (some (v_i (zcn Z k))) g2) (h2 : ¬ ((0 ≤ k ∧ k ≤ 8)) → ∀ g2 : sp_G, mRep g2 (zr 3 Z) → fCo g g2 → Q (some (v_i (-2))) g2) : sp_Met (d + 8) mX6_told [v_r 52, v_i k] g Q := by
  refine sp_of (L := [_, _]) (by decide) (Nat.le_of_ble_eq_true rfl) rfl rfl ?_
  refine aw_iload_n dX6_told_0 rfl ?_
  refine aw_iconst dX6_told_1 ?_
  refine aw_bipush dX6_told_2 (by decide) ?_
  refine aw_S3 dX6_told_4 okX6_in lkX6_53 rfl ?_
  refine tX6_in _ (by omega) ?_
  refine aw_ifeq_b (tg := 18) dX6_told_7 (by decide) (fun h7 => ?_) (fun h7 => ?_)
  · refine aw_aload_n dX6_told_18 rfl ?_
    refine aw_bipush dX6_told_19 (by decide) ?_
    refine aw_V1 dX6_told_21 okX6_refuses lkX6_68 rfl rfl rfl ?_
    refine zX6_ref0 _ hR hV (fun g2 r2 c2 => ?_)
    refine aw_iret dX6_told_24 rfl ?_
    exact h2 (by omega) g2 r2 c2
  · refine aw_aload_n dX6_told_10 rfl ?_
    refine aw_iload_n dX6_told_11 rfl ?_
    refine aw_V1 dX6_told_12 okX6_toldOf lkX6_216 rfl rfl rfl ?_
    refine zX6_toldOf _ hR hV (by omega) ?_
    refine aw_goto (tg := 24) dX6_told_15 (by decide) ?_
    refine aw_iret dX6_told_24 rfl ?_
    exact h1 (by omega) g hR fCo.rf
theorem lX6_dg6 (d : Nat) {B : Int} {Z : zZ} {x3 : Int} {g0 : sp_G} {Q : sp_P} (hR : mRep g0 Z) (hV : zV B Z) (hst : stM g0 (ky (zo (zt Z)) (zd (zt Z)))) (hQ : ∀ g2 : sp_G, prM g0 g2 → Q (some (v_l (zdg Z))) g2) :
    ∀ (n : Nat) (s h : Int) (g : sp_G), 0 ≤ s → s + n = (sc (ky (zo (zt Z)) (zd (zt Z))) 24) → h = hI (fun s => shs (zL Z (zn Z 2) s)) (zg4 Z) s → prM g0 g → sp_AW mX6_digest (d + 5) 148 [some (v_r 52), some (v_l h), none, some (v_i x3), some (v_i s)] [] g Q := by
  have hb := (st_b (ky (zo (zt Z)) (zd (zt Z)))).1
  intro n
  induction n with
  | zero =>
    intro s h g h0 hn eh hp
    have es : s = (sc (ky (zo (zt Z)) (zd (zt Z))) 24) := by omega
    have hs := hst.pr hp
    refine aw_iload dX6_digest_148 rfl ?_
    refine aw_aload_n dX6_digest_150 rfl ?_
    refine aw_getI (kz := 12) dX6_digest_151 flX6_152 rfl rfl rfl ?_
    rw [hs.1]
    refine aw_icmp_ge (tg := 183) dX6_digest_154 (by decide) (by omega) (fun h154 => ?_) (fun h154 => absurd h154 (by omega))
    refine aw_lload_n dX6_digest_183 rfl ?_
    refine aw_lret dX6_digest_184 rfl ?_
    have e9 := hQ g hp
    unfold zdg at e9
    rw [eh, es]
    exact e9
  | succ n ih =>
    intro s h g h0 hn eh hp
    have hs := hst.pr hp
    have r1 := hR.sc hp.sc
    have hl := (zL_V hV (R := (zn Z 2)) hV.2.2.2.1.2.2 ⟨h0, show s < (sc (ky (zo (zt Z)) (zd (zt Z))) 24) by omega⟩).2.2.2
    refine aw_iload dX6_digest_148 rfl ?_
    refine aw_aload_n dX6_digest_150 rfl ?_
    refine aw_getI (kz := 12) dX6_digest_151 flX6_152 rfl rfl rfl ?_
    rw [hs.1]
    refine aw_icmp_ge (tg := 183) dX6_digest_154 (by decide) (by omega) (fun h154 => absurd h154 (by omega)) (fun h154 => ?_)
    refine aw_ldc2 dX6_digest_157 kcX6_221 ?_
    refine aw_lload_n dX6_digest_160 rfl ?_
    refine aw_lmul dX6_digest_161 ?_
    refine aw_aload_n dX6_digest_162 rfl ?_
    refine aw_iload dX6_digest_163 rfl ?_
    refine aw_aload_n dX6_digest_165 rfl ?_
    refine aw_getR dX6_digest_166 flX6_16 rfl rfl ?_
    refine aw_iconst dX6_digest_169 ?_
    refine aw_iald dX6_digest_170 rfl (by omega) ?_
    rw [r1.2.2.2.1.2.2]
    refine aw_V2 dX6_digest_171 okX6_prints lkX6_198 rfl rfl rfl ?_
    refine zX6_prints _ r1 hV hs (by omega) hV.2.2.2.1.2.2 (fun g2 hp2 _ _ => ?_)
    refine aw_i2l dX6_digest_174 (by omega) ?_
    refine aw_ladd dX6_digest_175 ?_
    refine aw_lstore_n (L2 := [_, _, _, _, _]) dX6_digest_176 (by decide) rfl rfl ?_
    refine aw_iinc (L2 := [_, _, _, _, _]) dX6_digest_177 rfl (by decide) rfl rfl ?_
    refine aw_goto (tg := 148) dX6_digest_180 (by decide) ?_
    exact ih (s + 1) _ g2 (by omega) (by omega) (by rw [hI_s h0, eh]) (hp.tr hp2)
theorem lX6_dg3 (d : Nat) {B : Int} {Z : zZ} {x4 : Option sp_V} {g : sp_G} {Q : sp_P} (hR : mRep g Z) (hV : zV B Z) (hx4 : sp_nl x4 = true) (hk : ∀ x3 : Option sp_V, sp_nl x3 = true → sp_AW mX6_digest (d + 5) 119 [some (v_r 52), some (v_l (zg3 Z)), none, x3, x4] [] g Q) :
    ∀ (n : Nat) (i h : Int), 0 ≤ i → i + n = 24 → h = hI (zm (zt Z)) (zg2 Z) i → sp_AW mX6_digest (d + 5) 92 [some (v_r 52), some (v_l h), none, some (v_i (120 + i)), x4] [] g Q := by
  intro n
  induction n with
  | zero =>
    intro i h h0 hn eh
    have ee : i = 24 := by omega
    subst ee
    refine aw_iload_n dX6_digest_92 rfl ?_
    refine aw_sipush dX6_digest_93 (by decide) ?_
    refine aw_icmp_ge (tg := 119) dX6_digest_96 (by decide) (by omega) (fun h96 => ?_) (fun h96 => absurd h96 (by omega))
    rw [eh]
    exact hk _ rfl
  | succ n ih =>
    intro i h h0 hn eh
    have nb9 := hV.1.2.2.1 i (by omega) (by omega)
    have e9 := hR.na i (120 + i) (by omega) (by omega) (by omega)
    refine aw_iload_n dX6_digest_92 rfl ?_
    refine aw_sipush dX6_digest_93 (by decide) ?_
    refine aw_icmp_ge (tg := 119) dX6_digest_96 (by decide) (by omega) (fun h96 => absurd h96 (by omega)) (fun h96 => ?_)
    refine aw_ldc2 dX6_digest_99 kcX6_221 ?_
    refine aw_lload_n dX6_digest_102 rfl ?_
    refine aw_lmul dX6_digest_103 ?_
    refine aw_aload_n dX6_digest_104 rfl ?_
    refine aw_getR dX6_digest_105 flX6_7 rfl rfl ?_
    refine aw_iload_n dX6_digest_108 rfl ?_
    refine aw_iald dX6_digest_109 rfl (by omega) ?_
    rw [e9]
    refine aw_i2l dX6_digest_110 (by omega) ?_
    refine aw_ladd dX6_digest_111 ?_
    refine aw_lstore_n (L2 := [_, _, _, _, _]) dX6_digest_112 (by decide) rfl rfl ?_
    refine aw_iinc (L2 := [_, _, _, _, _]) dX6_digest_113 rfl (by decide) rfl rfl ?_
    refine aw_goto (tg := 92) dX6_digest_116 (by decide) ?_
    rw [show 120 + i + 1 = 120 + (i + 1) by omega]
    exact ih (i + 1) _ (by omega) (by omega) (by rw [hI_s h0, eh])
theorem lX6_dg2i (d : Nat) {B : Int} {Z : zZ} {a h1 : Int} {g : sp_G} {Q : sp_P} (hR : mRep g Z) (hV : zV B Z) (ha : 0 ≤ a ∧ a < 24) (hk : ∀ x4 : Int, sp_AW mX6_digest (d + 5) 83 [some (v_r 52), some (v_l (hI (fun l => (zd (zt Z)) (l * 24 + a)) h1 4)), none, some (v_i a), some (v_i x4)] [] g Q) :
    ∀ (n : Nat) (l h : Int), 0 ≤ l → l + n = 4 → h = hI (fun l => (zd (zt Z)) (l * 24 + a)) h1 l → sp_AW mX6_digest (d + 5) 56 [some (v_r 52), some (v_l h), none, some (v_i a), some (v_i l)] [] g Q := by
  intro n
  induction n with
  | zero =>
    intro l h h0 hn eh
    have ee : l = 4 := by omega
    subst ee
    refine aw_iload dX6_digest_56 rfl ?_
    refine aw_iconst dX6_digest_58 ?_
    refine aw_icmp_ge (tg := 83) dX6_digest_59 (by decide) (by omega) (fun h59 => ?_) (fun h59 => absurd h59 (by omega))
    rw [eh]
    exact hk _
  | succ n ih =>
    intro l h h0 hn eh
    have nb9 := hV.1.2.1 (l * 24 + a) (by omega) (by omega)
    refine aw_iload dX6_digest_56 rfl ?_
    refine aw_iconst dX6_digest_58 ?_
    refine aw_icmp_ge (tg := 83) dX6_digest_59 (by decide) (by omega) (fun h59 => absurd h59 (by omega)) (fun h59 => ?_)
    refine aw_ldc2 dX6_digest_62 kcX6_221 ?_
    refine aw_lload_n dX6_digest_65 rfl ?_
    refine aw_lmul dX6_digest_66 ?_
    refine aw_aload_n dX6_digest_67 rfl ?_
    refine aw_iload dX6_digest_68 rfl ?_
    refine aw_iload_n dX6_digest_70 rfl ?_
    refine aw_V2 dX6_digest_71 okX6_district lkX6_79 rfl rfl rfl ?_
    refine tX6_district _ hR.di (by omega) ?_
    refine aw_i2l dX6_digest_74 (by omega) ?_
    refine aw_ladd dX6_digest_75 ?_
    refine aw_lstore_n (L2 := [_, _, _, _, _]) dX6_digest_76 (by decide) rfl rfl ?_
    refine aw_iinc (L2 := [_, _, _, _, _]) dX6_digest_77 rfl (by decide) rfl rfl ?_
    refine aw_goto (tg := 56) dX6_digest_80 (by decide) ?_
    exact ih (l + 1) _ (by omega) (by omega) (by rw [hI_s h0, eh])
theorem lX6_dg2 (d : Nat) {B : Int} {Z : zZ} {g : sp_G} {Q : sp_P} (hR : mRep g Z) (hV : zV B Z) (hk : ∀ x3 x4 : Option sp_V, sp_nl x3 = true → sp_nl x4 = true → sp_AW mX6_digest (d + 5) 89 [some (v_r 52), some (v_l (zg2 Z)), none, x3, x4] [] g Q) :
    ∀ (n : Nat) (a h : Int) (x4 : Option sp_V), 0 ≤ a → a + n = 24 → h = bI (zp (zt Z)) (zd (zt Z)) (zg1 Z) a → sp_nl x4 = true → sp_AW mX6_digest (d + 5) 33 [some (v_r 52), some (v_l h), none, some (v_i a), x4] [] g Q := by
  intro n
  induction n with
  | zero =>
    intro a h x4 h0 hn eh hx4
    have ee : a = 24 := by omega
    subst ee
    refine aw_iload_n dX6_digest_33 rfl ?_
    refine aw_bipush dX6_digest_34 (by decide) ?_
    refine aw_icmp_ge (tg := 89) dX6_digest_36 (by decide) (by omega) (fun h36 => ?_) (fun h36 => absurd h36 (by omega))
    rw [eh]
    exact hk _ _ rfl hx4
  | succ n ih =>
    intro a h x4 h0 hn eh hx4
    have pb9 := hV.1.1 a (by omega) (by omega)
    have e2 := hR.pe a a (by omega) (by omega) (by omega)
    refine aw_iload_n dX6_digest_33 rfl ?_
    refine aw_bipush dX6_digest_34 (by decide) ?_
    refine aw_icmp_ge (tg := 89) dX6_digest_36 (by decide) (by omega) (fun h36 => absurd h36 (by omega)) (fun h36 => ?_)
    refine aw_ldc2 dX6_digest_39 kcX6_221 ?_
    refine aw_lload_n dX6_digest_42 rfl ?_
    refine aw_lmul dX6_digest_43 ?_
    refine aw_aload_n dX6_digest_44 rfl ?_
    refine aw_getR dX6_digest_45 flX6_7 rfl rfl ?_
    refine aw_iload_n dX6_digest_48 rfl ?_
    refine aw_iald dX6_digest_49 rfl (by omega) ?_
    rw [e2]
    refine aw_i2l dX6_digest_50 (by omega) ?_
    refine aw_ladd dX6_digest_51 ?_
    refine aw_lstore_n (L2 := [_, _, _, _, _]) dX6_digest_52 (by decide) rfl rfl ?_
    refine aw_iconst dX6_digest_53 ?_
    refine aw_istore (L2 := [_, _, _, _, _]) dX6_digest_54 (by decide) rfl rfl ?_
    refine lX6_dg2i _ hR hV (by omega) (fun x4 => ?_) 4 0 _ (by omega) (by omega) rfl
    refine aw_iinc (L2 := [_, _, _, _, _]) dX6_digest_83 rfl (by decide) rfl rfl ?_
    refine aw_goto (tg := 33) dX6_digest_86 (by decide) ?_
    exact ih (a + 1) _ _ (by omega) (by omega) (by rw [bI_s h0, eh]) rfl
theorem lX6_dg1 (d : Nat) {B : Int} {Z : zZ} {g : sp_G} {Q : sp_P} (hR : mRep g Z) (hV : zV B Z) (hB : B ≤ 1000000) (hk : ∀ x3 x4 : Option sp_V, sp_nl x3 = true → sp_nl x4 = true → sp_AW mX6_digest (d + 5) 31 [some (v_r 52), some (v_l (zg1 Z)), none, x3, x4] [] g Q) :
    ∀ (n : Nat) (k h : Int) (x4 : Option sp_V), 0 ≤ k → k + n = 9 → h = hI (zcn Z) 2027 k → sp_nl x4 = true → sp_AW mX6_digest (d + 5) 6 [some (v_r 52), some (v_l h), none, some (v_i k), x4] [] g Q := by
  intro n
  induction n with
  | zero =>
    intro k h x4 h0 hn eh hx4
    have ee : k = 9 := by omega
    subst ee
    refine aw_iload_n dX6_digest_6 rfl ?_
    refine aw_bipush dX6_digest_7 (by decide) ?_
    refine aw_icmp_ge (tg := 31) dX6_digest_9 (by decide) (by omega) (fun h9 => ?_) (fun h9 => absurd h9 (by omega))
    rw [eh]
    exact hk _ _ rfl hx4
  | succ n ih =>
    intro k h x4 h0 hn eh hx4
    have cb := zcn_b (k := k) hV hB (by omega)
    refine aw_iload_n dX6_digest_6 rfl ?_
    refine aw_bipush dX6_digest_7 (by decide) ?_
    refine aw_icmp_ge (tg := 31) dX6_digest_9 (by decide) (by omega) (fun h9 => absurd h9 (by omega)) (fun h9 => ?_)
    refine aw_ldc2 dX6_digest_12 kcX6_221 ?_
    refine aw_lload_n dX6_digest_15 rfl ?_
    refine aw_lmul dX6_digest_16 ?_
    refine aw_aload_n dX6_digest_17 rfl ?_
    refine aw_iload_n dX6_digest_18 rfl ?_
    refine aw_V1 dX6_digest_19 okX6_toldOf lkX6_216 rfl rfl rfl ?_
    refine zX6_toldOf _ hR hV (by omega) ?_
    refine aw_i2l dX6_digest_22 (by omega) ?_
    refine aw_ladd dX6_digest_23 ?_
    refine aw_lstore_n (L2 := [_, _, _, _, _]) dX6_digest_24 (by decide) rfl rfl ?_
    refine aw_iinc (L2 := [_, _, _, _, _]) dX6_digest_25 rfl (by decide) rfl rfl ?_
    refine aw_goto (tg := 6) dX6_digest_28 (by decide) ?_
    exact ih (k + 1) _ _ (by omega) (by omega) (by rw [hI_s h0, eh]) hx4
theorem rX6_digest (d : Nat) {B : Int} {Z : zZ} {g : sp_G} {Q : sp_P} (hR : mRep g Z) (hV : zV B Z) (hB : B ≤ 1000000) (h1 : ∀ g2 : sp_G, mRep g2 Z → fCo g g2 → Q (some (v_l (zdg Z))) g2) : sp_Met (d + 8) mX6_digest [v_r 52] g Q := by
  refine sp_of (L := [_, _, _, _, _]) (by decide) (Nat.le_of_ble_eq_true rfl) rfl rfl ?_
  refine aw_ldc2 dX6_digest_0 kcX6_219 ?_
  refine aw_lstore_n (L2 := [_, _, _, _, _]) dX6_digest_3 (by decide) rfl rfl ?_
  refine aw_iconst dX6_digest_4 ?_
  refine aw_istore_n (L2 := [_, _, _, _, _]) dX6_digest_5 (by decide) rfl rfl ?_
  refine lX6_dg1 _ hR hV hB (fun x3 x4 hx3 hx4 => ?_) 9 0 _ _ (by omega) (by omega) rfl rfl
  refine aw_iconst dX6_digest_31 ?_
  refine aw_istore_n (L2 := [_, _, _, _, _]) dX6_digest_32 (by decide) rfl rfl ?_
  refine lX6_dg2 _ hR hV (fun x3 x4 hx3 hx4 => ?_) 24 0 _ _ (by omega) (by omega) rfl hx4
  refine aw_bipush dX6_digest_89 (by decide) ?_
  refine aw_istore_n (L2 := [_, _, _, _, _]) dX6_digest_91 (by decide) rfl rfl ?_
  refine lX6_dg3 _ hR hV hx4 (fun x3 hx3 => ?_) 24 0 _ (by omega) (by omega) rfl
  refine aw_aload_n dX6_digest_119 rfl ?_
  refine aw_V0 dX6_digest_120 okX6_borderOf lkX6_176 rfl rfl rfl ?_
  have bb := bd_b (y := (sy (ky (zo (zt Z)) (zd (zt Z))) 24))
  refine zX6_borderOf _ hR hV (fun g1 f1 s1 => ?_)
  have r1 := hR.sc f1.sc
  have c1 := f1.sc.c
  have sb := st_b (ky (zo (zt Z)) (zd (zt Z)))
  refine aw_istore_n (L2 := [_, _, _, _, _]) dX6_digest_123 (by decide) rfl rfl ?_
  refine aw_ldc2 dX6_digest_124 kcX6_221 ?_
  refine aw_lload_n dX6_digest_127 rfl ?_
  refine aw_lmul dX6_digest_128 ?_
  refine aw_aload_n dX6_digest_129 rfl ?_
  refine aw_getI (kz := 12) dX6_digest_130 flX6_152 rfl rfl rfl ?_
  rw [s1.1]
  refine aw_i2l dX6_digest_133 (by omega) ?_
  refine aw_ladd dX6_digest_134 ?_
  refine aw_lstore_n (L2 := [_, _, _, _, _]) dX6_digest_135 (by decide) rfl rfl ?_
  refine aw_ldc2 dX6_digest_136 kcX6_221 ?_
  refine aw_lload_n dX6_digest_139 rfl ?_
  refine aw_lmul dX6_digest_140 ?_
  refine aw_iload_n dX6_digest_141 rfl ?_
  refine aw_i2l dX6_digest_142 (by omega) ?_
  refine aw_ladd dX6_digest_143 ?_
  refine aw_lstore_n (L2 := [_, _, _, _, _]) dX6_digest_144 (by decide) rfl rfl ?_
  refine aw_iconst dX6_digest_145 ?_
  refine aw_istore (L2 := [_, _, _, _, _]) dX6_digest_146 (by decide) rfl rfl ?_
  refine lX6_dg6 _ r1 hV s1 (fun g2 hp2 => h1 g2 (r1.sc hp2.sc) (c1.tr hp2.sc.c)) ((sc (ky (zo (zt Z)) (zd (zt Z))) 24)).toNat 0 _ g1 (by omega) (by omega) rfl prM.rf
