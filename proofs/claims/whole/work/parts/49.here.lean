theorem lX2_num (d : Nat) {B : Int} {Z : zZ} {q e : Int} {g : sp_G} {Q : sp_P} (hR : cRep g Z) (hV : zV B Z) (hq : 0 ≤ q ∧ q ≤ e ∧ e ≤ (zl Z) ∧ e ≤ q + 2) (e6 : g 49 6 = e) (hQ : Q (some (v_i (dv (zx Z) q (e - q)))) g) :
    ∀ (n : Nat) (i v : Int), q ≤ i → i + n = e → v = dv (zx Z) q (i - q) → sp_AW mX2_numberHere d 22 [some (v_r 49), some (v_i v), some (v_i i)] [] g Q := by
  have hx := zV_x hV
  intro n
  induction n with
  | zero =>
    intro i v h0 hn ev
    have ei : i = e := by omega
    refine aw_iload_n dX2_numberHere_22 rfl ?_
    refine aw_aload_n dX2_numberHere_23 rfl ?_
    refine aw_getI (kz := 6) dX2_numberHere_24 flX2_32 rfl rfl rfl ?_
    rw [e6]
    refine aw_icmp_ge (tg := 51) dX2_numberHere_27 (by decide) (by omega) (fun h27 => ?_) (fun h27 => absurd h27 (by omega))
    refine aw_iload_n dX2_numberHere_51 rfl ?_
    refine aw_iret dX2_numberHere_52 rfl ?_
    rw [ev, ei]
    exact hQ
  | succ n ih =>
    intro i v h0 hn ev
    have hb : g 50 i = (zx Z) i := hR.tx.2 i i (by omega) (by omega) (by omega)
    refine aw_iload_n dX2_numberHere_22 rfl ?_
    refine aw_aload_n dX2_numberHere_23 rfl ?_
    refine aw_getI (kz := 6) dX2_numberHere_24 flX2_32 rfl rfl rfl ?_
    rw [e6]
    refine aw_icmp_ge (tg := 51) dX2_numberHere_27 (by decide) (by omega) (fun h27 => absurd h27 (by omega)) (fun h27 => ?_)
    refine aw_bipush dX2_numberHere_30 (by decide) ?_
    refine aw_iload_n dX2_numberHere_32 rfl ?_
    refine aw_imul dX2_numberHere_33 ?_
    refine aw_aload_n dX2_numberHere_34 rfl ?_
    refine aw_getR dX2_numberHere_35 flX2_11 rfl rfl ?_
    refine aw_iload_n dX2_numberHere_38 rfl ?_
    refine aw_bald dX2_numberHere_39 rfl (by omega) ?_
    rw [hb]
    refine aw_iadd dX2_numberHere_40 ?_
    refine aw_bipush dX2_numberHere_41 (by decide) ?_
    refine aw_isub dX2_numberHere_43 ?_
    refine aw_istore_n (L2 := [_, _, _]) dX2_numberHere_44 (by decide) rfl rfl ?_
    refine aw_iinc (L2 := [_, _, _]) dX2_numberHere_45 rfl (by decide) rfl rfl ?_
    refine aw_goto (tg := 22) dX2_numberHere_48 (by decide) ?_
    exact ih (i + 1) _ (by omega) (by omega) (by rw [show i + 1 - q = (i - q) + 1 by omega, dv_s (by omega), ← ev, show q + (i - q) = i by omega])
theorem zX2_numberHere (d : Nat) {B : Int} {Z : zZ} {q e : Int} {g : sp_G} {Q : sp_P} (hR : cRep g Z) (hV : zV B Z) (hq : 0 ≤ q ∧ q ≤ e ∧ e ≤ (zl Z)) (e5 : g 49 5 = q) (e6 : g 49 6 = e) (hQ : Q (some (v_i (if e ≤ q + 2 then dv (zx Z) q (e - q) else -1))) g) : sp_Met d mX2_numberHere [v_r 49] g Q := by
  have hx := (zV_x hV).1
  refine sp_of (L := [_, _, _]) (by decide) (Nat.le_of_ble_eq_true rfl) rfl rfl ?_
  refine aw_aload_n dX2_numberHere_0 rfl ?_
  refine aw_getI (kz := 6) dX2_numberHere_1 flX2_32 rfl rfl rfl ?_
  refine aw_aload_n dX2_numberHere_4 rfl ?_
  refine aw_getI (kz := 5) dX2_numberHere_5 flX2_29 rfl rfl rfl ?_
  rw [e5, e6]
  refine aw_isub dX2_numberHere_8 ?_
  refine aw_iconst dX2_numberHere_9 ?_
  refine aw_icmp_le (tg := 15) dX2_numberHere_10 (by decide) (by omega) (fun h10 => ?_) (fun h10 => ?_)
  · refine aw_iconst dX2_numberHere_15 ?_
    refine aw_istore_n (L2 := [_, _, _]) dX2_numberHere_16 (by decide) rfl rfl ?_
    refine aw_aload_n dX2_numberHere_17 rfl ?_
    refine aw_getI (kz := 5) dX2_numberHere_18 flX2_29 rfl rfl rfl ?_
    rw [e5]
    refine aw_istore_n (L2 := [_, _, _]) dX2_numberHere_21 (by decide) rfl rfl ?_
    rw [if_pos (by omega)] at hQ
    exact lX2_num _ hR hV (by omega) e6 hQ (e - q).toNat q 0 (by omega) (by omega) (by rw [Int.sub_self]; rfl)
  · refine aw_iconst dX2_numberHere_13 ?_
    refine aw_iret dX2_numberHere_14 rfl ?_
    rwa [if_neg (by omega)] at hQ
theorem tX2_wordOf (d : Nat) {i : Int} {g : sp_G} {Q : sp_P} (hi : 0 ≤ i ∧ i ≤ 4) (hQ : Q (some (v_r (80 + i.toNat))) g) : sp_Met d mX2_wordOf [v_i i] g Q := by
  refine sp_of (L := [_]) (by decide) (Nat.le_of_ble_eq_true rfl) rfl rfl ?_
  refine aw_iload_n dX2_wordOf_0 rfl ?_
  rcases (show i = 0 ∨ i = 1 ∨ i = 2 ∨ i = 3 ∨ i = 4 by omega) with h9 | h9 | h9 | h9 | h9
  · subst h9
    refine aw_tin (tg := 32) dX2_wordOf_1 (by omega) (by omega) rfl (by decide) ?_
    refine aw_ldcS (i := 0) rfl dX2_wordOf_32 (by decide) ?_
    refine aw_aret dX2_wordOf_34 rfl ?_
    exact hQ
  · subst h9
    refine aw_tin (tg := 35) dX2_wordOf_1 (by omega) (by omega) rfl (by decide) ?_
    refine aw_ldcS (i := 1) rfl dX2_wordOf_35 (by decide) ?_
    refine aw_aret dX2_wordOf_37 rfl ?_
    exact hQ
  · subst h9
    refine aw_tin (tg := 38) dX2_wordOf_1 (by omega) (by omega) rfl (by decide) ?_
    refine aw_ldcS (i := 2) rfl dX2_wordOf_38 (by decide) ?_
    refine aw_aret dX2_wordOf_40 rfl ?_
    exact hQ
  · subst h9
    refine aw_tin (tg := 41) dX2_wordOf_1 (by omega) (by omega) rfl (by decide) ?_
    refine aw_ldcS (i := 3) rfl dX2_wordOf_41 (by decide) ?_
    refine aw_aret dX2_wordOf_43 rfl ?_
    exact hQ
  · subst h9
    refine aw_tout (tg := 44) dX2_wordOf_1 (by omega) (by omega) (by decide) ?_
    refine aw_ldcS (i := 4) rfl dX2_wordOf_44 (by decide) ?_
    refine aw_aret dX2_wordOf_46 rfl ?_
    exact hQ
def wH (x : Int → Int) (q e w : Int) : Prop := wl w = e - q ∧ ∀ i, 0 ≤ i → i < wl w → x (q + i) = wds (wo w + i)
theorem lX2_isHere (d : Nat) {B : Int} {Z : zZ} {q e : Int} {i : Nat} {g : sp_G} {Q : sp_P} (hR : cRep g Z) (hV : zV B Z) (hi : i < 5) (hq : 0 ≤ q ∧ q ≤ e ∧ e ≤ (zl Z)) (hl : wl i = e - q) (e5 : g 49 5 = q) (hQ1 : wH (zx Z) q e i → Q (some (v_i 1)) g) (hQ0 : ¬ wH (zx Z) q e i → Q (some (v_i 0)) g) :
    ∀ (n : Nat) (k : Int), 0 ≤ k → k + n = wl i → (∀ j, 0 ≤ j → j < k → (zx Z) (q + j) = wds (wo i + j)) → sp_AW mX2_isHere (d + 4) 20 [some (v_r 49), some (v_r (80 + i)), some (v_i k)] [] g Q := by
  have hx := zV_x hV
  have hw := wl_b i
  intro n
  induction n with
  | zero =>
    intro k h0 hn hk
    have ek : k = wl i := by omega
    refine aw_iload_n dX2_isHere_20 rfl ?_
    refine aw_aload_n dX2_isHere_21 rfl ?_
    refine aw_callVx (as := []) (i := i) dX2_isHere_22 okJ0_length_8abf5 lkX2_97 hi rfl rfl rfl (Nat.le_of_ble_eq_true rfl) ?_
    refine tJ0_length _ hi ?_
    refine aw_icmp_ge (tg := 55) dX2_isHere_25 (by decide) (by omega) (fun h25 => ?_) (fun h25 => absurd h25 (by omega))
    refine aw_iconst dX2_isHere_55 ?_
    refine aw_zret dX2_isHere_56 rfl (by omega) ?_
    exact hQ1 ⟨hl, fun j j0 j1 => hk j j0 (by omega)⟩
  | succ n ih =>
    intro k h0 hn hk
    have hb : g 50 (q + k) = (zx Z) (q + k) := hR.tx.2 (q + k) _ (by omega) (by omega) (by omega)
    have xb := hx.2 (q + k) (by omega) (by omega)
    have wv := (wds_b (w := i) (i := k) (by omega) (by omega)).1 (by omega)
    refine aw_iload_n dX2_isHere_20 rfl ?_
    refine aw_aload_n dX2_isHere_21 rfl ?_
    refine aw_callVx (as := []) (i := i) dX2_isHere_22 okJ0_length_8abf5 lkX2_97 hi rfl rfl rfl (Nat.le_of_ble_eq_true rfl) ?_
    refine tJ0_length _ hi ?_
    refine aw_icmp_ge (tg := 55) dX2_isHere_25 (by decide) (by omega) (fun h25 => absurd h25 (by omega)) (fun h25 => ?_)
    refine aw_aload_n dX2_isHere_28 rfl ?_
    refine aw_iload_n dX2_isHere_29 rfl ?_
    refine aw_callVx (as := [v_i k]) (i := i) dX2_isHere_30 okJ0_charAt_5068e lkX2_101 hi rfl rfl rfl (Nat.le_of_ble_eq_true rfl) ?_
    refine tJ0_charAt _ hi (by omega) ?_
    refine aw_aload_n dX2_isHere_33 rfl ?_
    refine aw_getR dX2_isHere_34 flX2_11 rfl rfl ?_
    refine aw_aload_n dX2_isHere_37 rfl ?_
    refine aw_getI (kz := 5) dX2_isHere_38 flX2_29 rfl rfl rfl ?_
    rw [e5]
    refine aw_iload_n dX2_isHere_41 rfl ?_
    refine aw_iadd dX2_isHere_42 ?_
    refine aw_bald dX2_isHere_43 rfl (by omega) ?_
    rw [hb]
    refine aw_icmp_eq (tg := 49) dX2_isHere_44 (by decide) (by omega) (fun h44 => ?_) (fun h44 => ?_)
    · refine aw_iinc (L2 := [_, _, _]) dX2_isHere_49 rfl (by decide) rfl rfl ?_
      refine aw_goto (tg := 20) dX2_isHere_52 (by decide) ?_
      refine ih (k + 1) (by omega) (by omega) (fun j j0 j1 => ?_)
      by_cases c : j = k
      · rw [c]; exact h44.symm
      · exact hk j j0 (by omega)
    · refine aw_iconst dX2_isHere_47 ?_
      refine aw_zret dX2_isHere_48 rfl (by omega) ?_
      exact hQ0 (fun c => h44 (c.2 k h0 (by omega)).symm)
theorem zX2_isHere (d : Nat) {B : Int} {Z : zZ} {q e : Int} {i : Nat} {g : sp_G} {Q : sp_P} (hR : cRep g Z) (hV : zV B Z) (hi : i < 5) (hq : 0 ≤ q ∧ q ≤ e ∧ e ≤ (zl Z)) (e5 : g 49 5 = q) (e6 : g 49 6 = e) (hQ : ∀ b : Int, (b = 1 → wH (zx Z) q e i) → (b ≠ 1 → ¬ wH (zx Z) q e i) → Q (some (v_i (sp_bl (b = 1)))) g) : sp_Met (d + 4) mX2_isHere [v_r 49, v_r (80 + i)] g Q := by
  have hx := (zV_x hV).1
  have hw := wl_b i
  refine sp_of (L := [_, _, _]) (by decide) (Nat.le_of_ble_eq_true rfl) rfl rfl ?_
  refine aw_aload_n dX2_isHere_0 rfl ?_
  refine aw_callVx (as := []) (i := i) dX2_isHere_1 okJ0_length_8abf5 lkX2_97 hi rfl rfl rfl (Nat.le_of_ble_eq_true rfl) ?_
  refine tJ0_length _ hi ?_
  refine aw_aload_n dX2_isHere_4 rfl ?_
  refine aw_getI (kz := 6) dX2_isHere_5 flX2_32 rfl rfl rfl ?_
  refine aw_aload_n dX2_isHere_8 rfl ?_
  refine aw_getI (kz := 5) dX2_isHere_9 flX2_29 rfl rfl rfl ?_
  rw [e5, e6]
  refine aw_isub dX2_isHere_12 ?_
  refine aw_icmp_eq (tg := 18) dX2_isHere_13 (by decide) (by omega) (fun h13 => ?_) (fun h13 => ?_)
  · refine aw_iconst dX2_isHere_18 ?_
    refine aw_istore_n (L2 := [_, _, _]) dX2_isHere_19 (by decide) rfl rfl ?_
    exact lX2_isHere _ hR hV hi hq (by omega) e5 (fun k => hQ 1 (fun _ => k) (fun c => absurd rfl c)) (fun k => hQ 0 (fun c => by omega) (fun _ => k)) (wl i).toNat 0 (by omega) (by omega) (fun j j0 j1 => by omega)
  · refine aw_iconst dX2_isHere_16 ?_
    refine aw_zret dX2_isHere_17 rfl (by omega) ?_
    exact hQ 0 (fun c => by omega) (fun _ c => h13 c.1)
theorem wM_H {x : Int → Int} {N q w : Int} (hw : 0 ≤ w ∧ w ≤ 4) (hq : q ≤ N) : wM x N q w ↔ wH x q (rn 97 122 x N q) w := by
  have wb := wl_b w
  have hr := rn_p (lo := 97) (hi := 122) (x := x) hq
  constructor
  · intro h
    have e : rn 97 122 x N q = q + wl w := rn_u h.2.2 (wl w).toNat q (by omega) h.1 (fun i i0 i1 => by
      have h2 := h.2.1 (i - q) (by omega) (by omega)
      rw [show q + (i - q) = i by omega] at h2
      rw [h2]
      exact (wds_b hw (i := i - q) (by omega)).1 (by omega))
    exact ⟨by omega, h.2.1⟩
  · intro h
    have e : q + wl w = rn 97 122 x N q := by have := h.1; omega
    refine ⟨by omega, h.2, ?_⟩
    rw [e]
    exact hr.2.2
theorem wM_l {x : Int → Int} {N q w : Int} (hw : 0 ≤ w ∧ w ≤ 4) (h : wM x N q w) : q < N ∧ 97 ≤ x q ∧ x q ≤ 122 := by
  have wb := wl_b w
  have h2 := h.2.1 0 (by omega) (by omega)
  rw [Int.add_zero] at h2
  have h3 := (wds_b hw (i := 0) (by omega)).1 (by omega)
  have h4 := h.1
  rw [h2]
  exact ⟨by omega, h3⟩
theorem wF_k {x : Int → Int} {N q : Int} (h : kd x N q ≠ 1) : wF x N q = -1 := by
  refine wF_n (fun v v0 v1 c => h ?_)
  have c2 := wM_l ⟨v0, by omega⟩ c
  unfold kd
  rw [if_pos c2.1, if_pos c2.2]
theorem kd_1 {x : Int → Int} {N q : Int} (h : kd x N q = 1) : q < N ∧ bh x N q = rn 97 122 x N q := by
  unfold kd at h
  by_cases c : q < N
  · rw [if_pos c] at h
    by_cases c2 : 97 ≤ x q ∧ x q ≤ 122
    · unfold bh; rw [if_pos c, if_pos c2]; exact ⟨c, rfl⟩
    · rw [if_neg c2] at h
      split at h <;> omega
  · rw [if_neg c] at h; omega
theorem kd_b (x : Int → Int) (N q : Int) : 0 ≤ kd x N q ∧ kd x N q ≤ 3 := by
  unfold kd
  repeat' split
  all_goals omega
theorem kd_2 {x : Int → Int} {N q : Int} : (kd x N q = 2 ↔ (q < N ∧ 48 ≤ x q ∧ x q ≤ 57)) ∧ (kd x N q = 2 → bh x N q = rn 48 57 x N q) := by
  unfold kd bh
  by_cases c : q < N
  · rw [if_pos c, if_pos c]
    by_cases c2 : 97 ≤ x q ∧ x q ≤ 122
    · rw [if_pos c2, if_pos c2]; exact ⟨⟨fun h => by omega, fun h => by omega⟩, fun h => by omega⟩
    · rw [if_neg c2, if_neg c2]
      by_cases c3 : 48 ≤ x q ∧ x q ≤ 57
      · rw [if_pos c3, if_pos c3]; exact ⟨⟨fun _ => ⟨c, c3⟩, fun _ => rfl⟩, fun _ => rfl⟩
      · rw [if_neg c3, if_neg c3]; exact ⟨⟨fun h => by omega, fun h => absurd h.2 c3⟩, fun h => by omega⟩
  · rw [if_neg c, if_neg c]; exact ⟨⟨fun h => by omega, fun h => absurd h.1 c⟩, fun h => by omega⟩
theorem kd_3 {x : Int → Int} {N q : Int} : ((kd x N q = 3 ∧ x q = 59) ↔ (q < N ∧ x q = 59)) ∧ (kd x N q = 3 → q < N ∧ bh x N q = q + 1) ∧ (kd x N q = 0 ↔ ¬ q < N) := by
  unfold kd bh
  by_cases c : q < N
  · rw [if_pos c, if_pos c]
    by_cases c2 : 97 ≤ x q ∧ x q ≤ 122
    · rw [if_pos c2, if_pos c2]; exact ⟨⟨fun h => by omega, fun h => by omega⟩, fun h => by omega, ⟨fun h => by omega, fun h => absurd c h⟩⟩
    · rw [if_neg c2, if_neg c2]
      by_cases c3 : 48 ≤ x q ∧ x q ≤ 57
      · rw [if_pos c3, if_pos c3]; exact ⟨⟨fun h => by omega, fun h => by omega⟩, fun h => by omega, ⟨fun h => by omega, fun h => absurd c h⟩⟩
      · rw [if_neg c3, if_neg c3]; exact ⟨⟨fun h => ⟨c, h.2⟩, fun h => ⟨rfl, h.2⟩⟩, fun h => ⟨c, rfl⟩, ⟨fun h => by omega, fun h => absurd c h⟩⟩
  · rw [if_neg c, if_neg c]; exact ⟨⟨fun h => by omega, fun h => absurd h.1 c⟩, fun h => by omega, ⟨fun _ => c, fun _ => rfl⟩⟩
theorem lX2_orderHere (d : Nat) {B : Int} {Z : zZ} {q : Int} {g : sp_G} {Q : sp_P} (hR : cRep g Z) (hV : zV B Z) (hq : 0 ≤ q ∧ q ≤ (zl Z)) (hp : pc g (zx Z) (zl Z) q) (hk : kd (zx Z) (zl Z) q = 1) (hQ : Q (some (v_i (wF (zx Z) (zl Z) q))) g) :
    ∀ (n : Nat) (w : Int), 0 ≤ w → w + n = 5 → (∀ v, 0 ≤ v → v < w → ¬ wM (zx Z) (zl Z) q v) → sp_AW mX2_orderHere (d + 5) 2 [some (v_r 49), some (v_i w)] [] g Q := by
  have hb := kd_1 hk
  have hr := (rn_p (lo := 97) (hi := 122) (x := (zx Z)) hq.2).1
  have e6 : g 49 6 = rn 97 122 (zx Z) (zl Z) q := by rw [hp.2.2]; exact hb.2
  intro n
  induction n with
  | zero =>
    intro w h0 hn hv
    have ew : w = 5 := by omega
    refine aw_iload_n dX2_orderHere_2 rfl ?_
    refine aw_iconst dX2_orderHere_3 ?_
    refine aw_icmp_ge (tg := 26) dX2_orderHere_4 (by decide) (by omega) (fun h4 => ?_) (fun h4 => absurd h4 (by omega))
    refine aw_iconst dX2_orderHere_26 ?_
    refine aw_iret dX2_orderHere_27 rfl ?_
    rwa [wF_n (fun v v0 v1 => hv v v0 (by omega))] at hQ
  | succ n ih =>
    intro w h0 hn hv
    have ew : ((w.toNat : Nat) : Int) = w := Int.toNat_of_nonneg h0
    have hM := wM_H (x := (zx Z)) (N := (zl Z)) (q := q) (w := w) (by omega) hq.2
    refine aw_iload_n dX2_orderHere_2 rfl ?_
    refine aw_iconst dX2_orderHere_3 ?_
    refine aw_icmp_ge (tg := 26) dX2_orderHere_4 (by decide) (by omega) (fun h4 => absurd h4 (by omega)) (fun h4 => ?_)
    refine aw_aload_n dX2_orderHere_7 rfl ?_
    refine aw_iload_n dX2_orderHere_8 rfl ?_
    refine aw_S1 dX2_orderHere_9 okX2_wordOf lkX2_79 rfl ?_
    refine tX2_wordOf _ (by omega) ?_
    refine aw_V1 dX2_orderHere_12 okX2_isHere lkX2_83 rfl rfl rfl ?_
    refine zX2_isHere _ hR hV (by omega) (e := rn 97 122 (zx Z) (zl Z) q) (by omega) hp.1 e6 (fun b b1 b0 => ?_)
    rw [ew] at b1 b0
    refine aw_ifeq_b (tg := 20) dX2_orderHere_15 (by decide) (fun h15 => ?_) (fun h15 => ?_)
    · refine aw_iinc (L2 := [_, _]) dX2_orderHere_20 rfl (by decide) rfl rfl ?_
      refine aw_goto (tg := 2) dX2_orderHere_23 (by decide) ?_
      refine ih (w + 1) (by omega) (by omega) (fun v v0 v1 => ?_)
      by_cases c : v = w
      · rw [c]; exact fun k => b0 h15 (hM.1 k)
      · exact hv v v0 (by omega)
    · refine aw_iload_n dX2_orderHere_18 rfl ?_
      refine aw_iret dX2_orderHere_19 rfl ?_
      rwa [wF_y (by omega) (hM.2 (b1 h15)) hv] at hQ
theorem zX2_orderHere (d : Nat) {B : Int} {Z : zZ} {q : Int} {g : sp_G} {Q : sp_P} (hR : cRep g Z) (hV : zV B Z) (hq : 0 ≤ q ∧ q ≤ (zl Z)) (hp : pc g (zx Z) (zl Z) q) (hk : kd (zx Z) (zl Z) q = 1) (hQ : Q (some (v_i (wF (zx Z) (zl Z) q))) g) : sp_Met (d + 5) mX2_orderHere [v_r 49] g Q := by
  refine sp_of (L := [_, _]) (by decide) (Nat.le_of_ble_eq_true rfl) rfl rfl ?_
  refine aw_iconst dX2_orderHere_0 ?_
  refine aw_istore_n (L2 := [_, _]) dX2_orderHere_1 (by decide) rfl rfl ?_
  exact lX2_orderHere _ hR hV hq hp hk hQ 5 0 (by omega) (by omega) (fun v v0 v1 => by omega)
