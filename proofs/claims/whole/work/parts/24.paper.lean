theorem tX0_setColumns (d : Nat) {v : Int} {g : sp_G} {Q : sp_P}  (hQ : Q (some (v_i (g 45 0))) (sp_up g 45 0 v)) : sp_Met d mX0_setColumns [v_r 45, v_i v] g Q := by
  refine sp_of (L := [_, _, _]) (by decide) (Nat.le_of_ble_eq_true rfl) rfl rfl ?_
  refine aw_aload_n dX0_setColumns_0 rfl ?_
  refine aw_getI (kz := 0) dX0_setColumns_1 flX0_9 rfl rfl rfl ?_
  refine aw_istore_n (L2 := [_, _, _]) dX0_setColumns_4 (by decide) rfl rfl ?_
  refine aw_aload_n dX0_setColumns_5 rfl ?_
  refine aw_iload_n dX0_setColumns_6 rfl ?_
  refine aw_putI (kz := 0) dX0_setColumns_7 flX0_9 fi_0_0 rfl rfl rfl  ?_
  refine aw_iload_n dX0_setColumns_10 rfl ?_
  refine aw_iret dX0_setColumns_11 rfl ?_
  exact hQ
theorem tX0_setDepth (d : Nat) {v : Int} {g : sp_G} {Q : sp_P}  (hQ : Q (some (v_i (g 45 1))) (sp_up g 45 1 v)) : sp_Met d mX0_setDepth [v_r 45, v_i v] g Q := by
  refine sp_of (L := [_, _, _]) (by decide) (Nat.le_of_ble_eq_true rfl) rfl rfl ?_
  refine aw_aload_n dX0_setDepth_0 rfl ?_
  refine aw_getI (kz := 1) dX0_setDepth_1 flX0_15 rfl rfl rfl ?_
  refine aw_istore_n (L2 := [_, _, _]) dX0_setDepth_4 (by decide) rfl rfl ?_
  refine aw_aload_n dX0_setDepth_5 rfl ?_
  refine aw_iload_n dX0_setDepth_6 rfl ?_
  refine aw_putI (kz := 1) dX0_setDepth_7 flX0_15 fi_0_1 rfl rfl rfl  ?_
  refine aw_iload_n dX0_setDepth_10 rfl ?_
  refine aw_iret dX0_setDepth_11 rfl ?_
  exact hQ
theorem tX0_setRule (d : Nat) {v : Int} {g : sp_G} {Q : sp_P}  (hQ : Q (some (v_i (g 45 2))) (sp_up g 45 2 v)) : sp_Met d mX0_setRule [v_r 45, v_i v] g Q := by
  refine sp_of (L := [_, _, _]) (by decide) (Nat.le_of_ble_eq_true rfl) rfl rfl ?_
  refine aw_aload_n dX0_setRule_0 rfl ?_
  refine aw_getI (kz := 2) dX0_setRule_1 flX0_18 rfl rfl rfl ?_
  refine aw_istore_n (L2 := [_, _, _]) dX0_setRule_4 (by decide) rfl rfl ?_
  refine aw_aload_n dX0_setRule_5 rfl ?_
  refine aw_iload_n dX0_setRule_6 rfl ?_
  refine aw_putI (kz := 2) dX0_setRule_7 flX0_18 fi_0_2 rfl rfl rfl  ?_
  refine aw_iload_n dX0_setRule_10 rfl ?_
  refine aw_iret dX0_setRule_11 rfl ?_
  exact hQ
/-- a paper under way, in the component's cells -/
def lC (g : sp_G) (C : Int) (S : lT) : Prop := g 45 7 = l_sh S ∧ g 45 8 = l_la S ∧ g 45 9 = l_br S ∧ g 45 6 = l_ct S ∧ rH g 46 0 (l_sh S * C) (l_rm S) ∧ rH g 47 0 (l_ct S) (l_lr S) ∧ (l_br S = 0 → rH g 48 0 (l_ct S) (l_co S))
/-- what a paper leaves as it was -/
def pFr (g g2 : sp_G) : Prop := sp_fr [45, 46, 47, 48] g g2 ∧ g2 45 0 = g 45 0 ∧ g2 45 1 = g 45 1 ∧ g2 45 2 = g 45 2
theorem pFr.rf {g : sp_G} : pFr g g := ⟨sp_fr.rf, rfl, rfl, rfl⟩
theorem pFr.up {g g2 : sp_G} {o : Nat} {i x : Int} (h : pFr g g2) (ho : o ∈ [45, 46, 47, 48]) (hi : o = 45 → 3 ≤ i) : pFr g (sp_up g2 o i x) := by
  refine ⟨h.1.up ho, ?_, ?_, ?_⟩
  all_goals
    by_cases e : (45 : Nat) = o
    · subst e
      have := hi rfl
      rw [sp_up_i _ _ _ _ (by omega)]
      first | exact h.2.1 | exact h.2.2.1 | exact h.2.2.2
    · rw [sp_up_o _ _ _ _ e]
      first | exact h.2.1 | exact h.2.2.1 | exact h.2.2.2
theorem pFr.tr {g g2 g3 : sp_G} (h : pFr g g2) (h2 : pFr g2 g3) : pFr g g3 := ⟨h.1.tr h2.1 (fun _ q => q), h2.2.1.trans h.2.1, h2.2.2.1.trans h.2.2.1, h2.2.2.2.trans h.2.2.2⟩
theorem lX0_begin (d : Nat) {C D sh : Int} {rm : Int → Int} {g0 : sp_G} {Q : sp_P} (hC : 1 ≤ C ∧ C ≤ 3) (hs : 0 ≤ sh ∧ sh * C + C ≤ 12 ∧ 0 ≤ sh * C) (e0 : g0 45 0 = C) (e1 : g0 45 1 = D) (e7 : g0 45 7 = sh) (hQ : ∀ g : sp_G, sp_fr [46] g0 g → rH g 46 0 (sh * C + C) (bg C D sh rm) → Q none (sp_up g 45 7 (sh + 1))) :
    ∀ (n : Nat) (c : Int) (g : sp_G), 0 ≤ c → c + n = C → sp_fr [46] g0 g → rH g 46 0 (sh * C + c) (bg C D sh rm) → sp_AW mX0_beginSheet d 2 [some (v_r 45), some (v_i c)] [] g Q := by
  intro n
  induction n with
  | zero =>
    intro c g h0 hn hf hr
    have ec : c = C := by omega
    subst ec
    have f0 : g 45 0 = c := by rw [hf 45 (by decide)]; exact e0
    have f7 : g 45 7 = sh := by rw [hf 45 (by decide)]; exact e7
    refine aw_iload_n dX0_beginSheet_2 rfl ?_
    refine aw_aload_n dX0_beginSheet_3 rfl ?_
    refine aw_getI (kz := 0) dX0_beginSheet_4 flX0_9 rfl rfl rfl ?_
    rw [f0]
    refine aw_icmp_ge (tg := 36) dX0_beginSheet_7 (by decide) (by omega) (fun h7 => ?_) (fun h7 => absurd h7 (by omega))
    refine aw_aload_n dX0_beginSheet_36 rfl ?_
    refine aw_dup dX0_beginSheet_37 rfl ?_
    refine aw_getI (kz := 7) dX0_beginSheet_38 flX0_34 rfl rfl rfl ?_
    rw [f7]
    refine aw_iconst dX0_beginSheet_41 ?_
    refine aw_iadd dX0_beginSheet_42 ?_
    refine aw_putI (kz := 7) dX0_beginSheet_43 flX0_34 fi_0_7 rfl rfl rfl  ?_
    refine aw_vret dX0_beginSheet_46 rfl ?_
    exact hQ g hf hr
  | succ n ih =>
    intro c g h0 hn hf hr
    have f0 : g 45 0 = C := by rw [hf 45 (by decide)]; exact e0
    have f1 : g 45 1 = D := by rw [hf 45 (by decide)]; exact e1
    have f7 : g 45 7 = sh := by rw [hf 45 (by decide)]; exact e7
    refine aw_iload_n dX0_beginSheet_2 rfl ?_
    refine aw_aload_n dX0_beginSheet_3 rfl ?_
    refine aw_getI (kz := 0) dX0_beginSheet_4 flX0_9 rfl rfl rfl ?_
    rw [f0]
    refine aw_icmp_ge (tg := 36) dX0_beginSheet_7 (by decide) (by omega) (fun h7 => absurd h7 (by omega)) (fun h7 => ?_)
    refine aw_aload_n dX0_beginSheet_10 rfl ?_
    refine aw_getR dX0_beginSheet_11 flX0_21 rfl rfl ?_
    refine aw_aload_n dX0_beginSheet_14 rfl ?_
    refine aw_getI (kz := 7) dX0_beginSheet_15 flX0_34 rfl rfl rfl ?_
    refine aw_aload_n dX0_beginSheet_18 rfl ?_
    refine aw_getI (kz := 0) dX0_beginSheet_19 flX0_9 rfl rfl rfl ?_
    rw [f7, f0]
    refine aw_imul dX0_beginSheet_22 ?_
    refine aw_iload_n dX0_beginSheet_23 rfl ?_
    refine aw_iadd dX0_beginSheet_24 ?_
    refine aw_aload_n dX0_beginSheet_25 rfl ?_
    refine aw_getI (kz := 1) dX0_beginSheet_26 flX0_15 rfl rfl rfl ?_
    rw [f1]
    refine aw_iast dX0_beginSheet_29 rfl (by omega) ?_
    refine aw_iinc (L2 := [_, _]) dX0_beginSheet_30 rfl (by decide) rfl rfl ?_
    refine aw_goto (tg := 2) dX0_beginSheet_33 (by decide) ?_
    refine ih (c + 1) _ (by omega) (by omega) (hf.up (by decide)) (fun i j i0 i1 e => ?_)
    by_cases hi : i = sh * C + c
    · rw [show j = sh * C + c by omega, sp_up_s, hi]
      unfold bg
      rw [if_pos (by omega)]
    · rw [sp_up_i _ _ _ _ (by omega)]
      exact hr i j i0 (by omega) e
theorem tX0_beginSheet (d : Nat) {C D sh : Int} {rm : Int → Int} {g : sp_G} {Q : sp_P} (hC : 1 ≤ C ∧ C ≤ 3) (hs : 0 ≤ sh ∧ sh * C + C ≤ 12 ∧ 0 ≤ sh * C) (e0 : g 45 0 = C) (e1 : g 45 1 = D) (e7 : g 45 7 = sh) (hr : rH g 46 0 (sh * C) rm) (hQ : ∀ g2 : sp_G, sp_fr [46] g g2 → rH g2 46 0 (sh * C + C) (bg C D sh rm) → Q none (sp_up g2 45 7 (sh + 1))) : sp_Met d mX0_beginSheet [v_r 45] g Q := by
  refine sp_of (L := [_, _]) (by decide) (Nat.le_of_ble_eq_true rfl) rfl rfl ?_
  refine aw_iconst dX0_beginSheet_0 ?_
  refine aw_istore_n (L2 := [_, _]) dX0_beginSheet_1 (by decide) rfl rfl ?_
  refine lX0_begin d hC hs e0 e1 e7 hQ C.toNat 0 g (by omega) (by omega) sp_fr.rf (fun i j i0 i1 e => ?_)
  rw [hr i j i0 (by omega) e]
  unfold bg
  rw [if_neg (by omega)]
theorem tX0_nextColumn (d : Nat) {C sh la h : Int} {rm : Int → Int} {g : sp_G} {Q : sp_P} (hh : 0 ≤ h ∧ h ≤ 30) (e0 : g 45 0 = C) (e7 : g 45 7 = sh) (hr : rH g 46 0 (sh * C) rm) (hrb : ∀ c, 0 ≤ c → c < sh * C → 0 ≤ rm c ∧ rm c ≤ 30) (hp : 1 ≤ sh * C ∧ sh * C ≤ 12) (e8 : g 45 8 = la) (hla : 0 ≤ la ∧ la < sh * C) (hQ : Q (some (v_i (nx h C rm sh la))) g) : sp_Met d mX0_nextColumn [v_r 45, v_i h] g Q := by
  refine sp_of (L := [_, _, _]) (by decide) (Nat.le_of_ble_eq_true rfl) rfl rfl ?_
  unfold nx at hQ
  have r1 := hr la la hla.1 hla.2 (by omega)
  have b1 := hrb la hla.1 hla.2
  refine aw_aload_n dX0_nextColumn_0 rfl ?_
  refine aw_getI (kz := 8) dX0_nextColumn_1 flX0_37 rfl rfl rfl ?_
  rw [e8]
  refine aw_istore_n (L2 := [_, _, _]) dX0_nextColumn_4 (by decide) rfl rfl ?_

  refine aw_iload_n dX0_nextColumn_5 rfl ?_
  refine aw_aload_n dX0_nextColumn_6 rfl ?_
  refine aw_getI (kz := 8) dX0_nextColumn_7 flX0_37 rfl rfl rfl ?_
  rw [e8]
  refine aw_iconst dX0_nextColumn_10 ?_
  refine aw_iadd dX0_nextColumn_11 ?_
  refine aw_icmp_gt (tg := 46) dX0_nextColumn_12 (by decide) (by omega) (fun h12 => absurd h12 (by omega)) (fun h12 => ?_)
  refine aw_iload_n dX0_nextColumn_15 rfl ?_
  refine aw_aload_n dX0_nextColumn_16 rfl ?_
  refine aw_getI (kz := 7) dX0_nextColumn_17 flX0_34 rfl rfl rfl ?_
  refine aw_aload_n dX0_nextColumn_20 rfl ?_
  refine aw_getI (kz := 0) dX0_nextColumn_21 flX0_9 rfl rfl rfl ?_
  rw [e7, e0]
  refine aw_imul dX0_nextColumn_24 ?_
  refine aw_icmp_ge (tg := 46) dX0_nextColumn_25 (by decide) (by omega) (fun h25 => absurd h25 (by omega)) (fun h25 => ?_)
  refine aw_aload_n dX0_nextColumn_28 rfl ?_
  refine aw_getR dX0_nextColumn_29 flX0_21 rfl rfl ?_
  refine aw_iload_n dX0_nextColumn_32 rfl ?_
  refine aw_iald dX0_nextColumn_33 rfl (by omega) ?_
  rw [r1]
  refine aw_iload_n dX0_nextColumn_34 rfl ?_
  refine aw_icmp_lt (tg := 40) dX0_nextColumn_35 (by decide) (by omega) (fun h35 => ?_) (fun h35 => ?_)
  · refine aw_iinc (L2 := [_, _, _]) dX0_nextColumn_40 rfl (by decide) rfl rfl ?_
    refine aw_goto (tg := 5) dX0_nextColumn_43 (by decide) ?_
    rw [if_neg (by omega)] at hQ
    refine aw_iload_n dX0_nextColumn_5 rfl ?_
    refine aw_aload_n dX0_nextColumn_6 rfl ?_
    refine aw_getI (kz := 8) dX0_nextColumn_7 flX0_37 rfl rfl rfl ?_
    rw [e8]
    refine aw_iconst dX0_nextColumn_10 ?_
    refine aw_iadd dX0_nextColumn_11 ?_
    refine aw_icmp_gt (tg := 46) dX0_nextColumn_12 (by decide) (by omega) (fun k12 => absurd k12 (by omega)) (fun k12 => ?_)
    refine aw_iload_n dX0_nextColumn_15 rfl ?_
    refine aw_aload_n dX0_nextColumn_16 rfl ?_
    refine aw_getI (kz := 7) dX0_nextColumn_17 flX0_34 rfl rfl rfl ?_
    refine aw_aload_n dX0_nextColumn_20 rfl ?_
    refine aw_getI (kz := 0) dX0_nextColumn_21 flX0_9 rfl rfl rfl ?_
    rw [e7, e0]
    refine aw_imul dX0_nextColumn_24 ?_
    refine aw_icmp_ge (tg := 46) dX0_nextColumn_25 (by decide) (by omega) (fun k25 => ?_) (fun k25 => ?_)
    · refine aw_iconst dX0_nextColumn_46 ?_
      refine aw_iret dX0_nextColumn_47 rfl ?_
      rwa [if_neg (by omega)] at hQ
    · have r2 := hr (la + 1) (la + 1) (by omega) (by omega) (by omega)
      have b2 := hrb (la + 1) (by omega) (by omega)
      refine aw_aload_n dX0_nextColumn_28 rfl ?_
      refine aw_getR dX0_nextColumn_29 flX0_21 rfl rfl ?_
      refine aw_iload_n dX0_nextColumn_32 rfl ?_
      refine aw_iald dX0_nextColumn_33 rfl (by omega) ?_
      rw [r2]
      refine aw_iload_n dX0_nextColumn_34 rfl ?_
      refine aw_icmp_lt (tg := 40) dX0_nextColumn_35 (by decide) (by omega) (fun k35 => ?_) (fun k35 => ?_)
      · refine aw_iinc (L2 := [_, _, _]) dX0_nextColumn_40 rfl (by decide) rfl rfl ?_
        refine aw_goto (tg := 5) dX0_nextColumn_43 (by decide) ?_
        rw [if_neg (by omega)] at hQ
        refine aw_iload_n dX0_nextColumn_5 rfl ?_
        refine aw_aload_n dX0_nextColumn_6 rfl ?_
        refine aw_getI (kz := 8) dX0_nextColumn_7 flX0_37 rfl rfl rfl ?_
        rw [e8]
        refine aw_iconst dX0_nextColumn_10 ?_
        refine aw_iadd dX0_nextColumn_11 ?_
        refine aw_icmp_gt (tg := 46) dX0_nextColumn_12 (by decide) (by omega) (fun m12 => ?_) (fun m12 => absurd m12 (by omega))
        refine aw_iconst dX0_nextColumn_46 ?_
        refine aw_iret dX0_nextColumn_47 rfl ?_
        exact hQ
      · refine aw_iload_n dX0_nextColumn_38 rfl ?_
        refine aw_iret dX0_nextColumn_39 rfl ?_
        rwa [if_pos (by omega)] at hQ
  · refine aw_iload_n dX0_nextColumn_38 rfl ?_
    refine aw_iret dX0_nextColumn_39 rfl ?_
    rwa [if_pos (by omega)] at hQ
theorem lX0_first (d : Nat) {C sh h : Int} {rm : Int → Int} {g : sp_G} {Q : sp_P} (hh : 0 ≤ h ∧ h ≤ 30) (e0 : g 45 0 = C) (e7 : g 45 7 = sh) (hr : rH g 46 0 (sh * C) rm) (hrb : ∀ c, 0 ≤ c → c < sh * C → 0 ≤ rm c ∧ rm c ≤ 30) (hp : 1 ≤ sh * C ∧ sh * C ≤ 12) (hQ : Q (some (v_i (scI 1 h rm (sh * C)))) g) :
    ∀ (n : Nat) (c : Int), 0 ≤ c → c + n = sh * C → (∀ x, 0 ≤ x → x < c → rm x < h) → sp_AW mX0_firstColumn d 2 [some (v_r 45), some (v_i h), some (v_i c)] [] g Q := by
  intro n
  induction n with
  | zero =>
    intro c h0 hn hno
    refine aw_iload_n dX0_firstColumn_2 rfl ?_
    refine aw_aload_n dX0_firstColumn_3 rfl ?_
    refine aw_getI (kz := 7) dX0_firstColumn_4 flX0_34 rfl rfl rfl ?_
    refine aw_aload_n dX0_firstColumn_7 rfl ?_
    refine aw_getI (kz := 0) dX0_firstColumn_8 flX0_9 rfl rfl rfl ?_
    rw [e7, e0]
    refine aw_imul dX0_firstColumn_11 ?_
    refine aw_icmp_ge (tg := 33) dX0_firstColumn_12 (by decide) (by omega) (fun h12 => ?_) (fun h12 => absurd h12 (by omega))
    refine aw_iconst dX0_firstColumn_33 ?_
    refine aw_iret dX0_firstColumn_34 rfl ?_
    rcases scI_p (R := 1) (h := h) (rm := rm) (n := sh * C) (by omega) with q | ⟨q1, q2, q3⟩
    · rwa [q.1] at hQ
    · have := hno _ q1 (by omega)
      omega
  | succ n ih =>
    intro c h0 hn hno
    have r1 := hr c c h0 (by omega) (by omega)
    have b1 := hrb c h0 (by omega)
    refine aw_iload_n dX0_firstColumn_2 rfl ?_
    refine aw_aload_n dX0_firstColumn_3 rfl ?_
    refine aw_getI (kz := 7) dX0_firstColumn_4 flX0_34 rfl rfl rfl ?_
    refine aw_aload_n dX0_firstColumn_7 rfl ?_
    refine aw_getI (kz := 0) dX0_firstColumn_8 flX0_9 rfl rfl rfl ?_
    rw [e7, e0]
    refine aw_imul dX0_firstColumn_11 ?_
    refine aw_icmp_ge (tg := 33) dX0_firstColumn_12 (by decide) (by omega) (fun h12 => absurd h12 (by omega)) (fun h12 => ?_)
    refine aw_aload_n dX0_firstColumn_15 rfl ?_
    refine aw_getR dX0_firstColumn_16 flX0_21 rfl rfl ?_
    refine aw_iload_n dX0_firstColumn_19 rfl ?_
    refine aw_iald dX0_firstColumn_20 rfl (by omega) ?_
    rw [r1]
    refine aw_iload_n dX0_firstColumn_21 rfl ?_
    refine aw_icmp_lt (tg := 27) dX0_firstColumn_22 (by decide) (by omega) (fun h22 => ?_) (fun h22 => ?_)
    · refine aw_iinc (L2 := [_, _, _]) dX0_firstColumn_27 rfl (by decide) rfl rfl ?_
      refine aw_goto (tg := 2) dX0_firstColumn_30 (by decide) ?_
      refine ih (c + 1) (by omega) (by omega) (fun x x0 x1 => ?_)
      by_cases hx : x = c
      · rw [hx]; omega
      · exact hno x x0 (by omega)
    · refine aw_iload_n dX0_firstColumn_25 rfl ?_
      refine aw_iret dX0_firstColumn_26 rfl ?_
      rwa [sc_1 rfl h0 (by omega) (by omega) hno] at hQ
theorem tX0_firstColumn (d : Nat) {C sh h : Int} {rm : Int → Int} {g : sp_G} {Q : sp_P} (hh : 0 ≤ h ∧ h ≤ 30) (e0 : g 45 0 = C) (e7 : g 45 7 = sh) (hr : rH g 46 0 (sh * C) rm) (hrb : ∀ c, 0 ≤ c → c < sh * C → 0 ≤ rm c ∧ rm c ≤ 30) (hp : 1 ≤ sh * C ∧ sh * C ≤ 12) (hQ : Q (some (v_i (scI 1 h rm (sh * C)))) g) : sp_Met d mX0_firstColumn [v_r 45, v_i h] g Q := by
  refine sp_of (L := [_, _, _]) (by decide) (Nat.le_of_ble_eq_true rfl) rfl rfl ?_
  refine aw_iconst dX0_firstColumn_0 ?_
  refine aw_istore_n (L2 := [_, _, _]) dX0_firstColumn_1 (by decide) rfl rfl ?_
  exact lX0_first d hh e0 e7 hr hrb hp hQ (sh * C).toNat 0 (by omega) (by omega) (fun x x0 x1 => by omega)
theorem lX0_tightColumn (d : Nat) {C sh h : Int} {rm : Int → Int} {g : sp_G} {Q : sp_P} (hh : 0 ≤ h ∧ h ≤ 30) (e0 : g 45 0 = C) (e7 : g 45 7 = sh) (hr : rH g 46 0 (sh * C) rm) (hrb : ∀ c, 0 ≤ c → c < sh * C → 0 ≤ rm c ∧ rm c ≤ 30) (hp : 1 ≤ sh * C ∧ sh * C ≤ 12) (hQ : Q (some (v_i (scI 2 h rm (sh * C)))) g) :
    ∀ (n : Nat) (c best : Int), 0 ≤ c → c + n = sh * C → best = scI 2 h rm c → sp_AW mX0_tightColumn d 4 [some (v_r 45), some (v_i h), some (v_i best), some (v_i c)] [] g Q := by
  intro n
  induction n with
  | zero =>
    intro c best h0 hn eb
    have ec : c = sh * C := by omega
    subst ec
    refine aw_iload_n dX0_tightColumn_4 rfl ?_
    refine aw_aload_n dX0_tightColumn_5 rfl ?_
    refine aw_getI (kz := 7) dX0_tightColumn_6 flX0_34 rfl rfl rfl ?_
    refine aw_aload_n dX0_tightColumn_9 rfl ?_
    refine aw_getI (kz := 0) dX0_tightColumn_10 flX0_9 rfl rfl rfl ?_
    rw [e7, e0]
    refine aw_imul dX0_tightColumn_13 ?_
    refine aw_icmp_ge (tg := 55) dX0_tightColumn_14 (by decide) (by omega) (fun h14 => ?_) (fun h14 => absurd h14 (by omega))
    refine aw_iload_n dX0_tightColumn_55 rfl ?_
    refine aw_iret dX0_tightColumn_56 rfl ?_
    rw [eb]
    exact hQ
  | succ n ih =>
    intro c best h0 hn eb
    have r1 := hr c c h0 (by omega) (by omega)
    have b1 := hrb c h0 (by omega)
    have hs := scI_s (R := 2) (h := h) (rm := rm) h0
    have hb : best = -1 ∨ (0 ≤ best ∧ best < c) := by
      rcases scI_p (R := 2) (h := h) (rm := rm) h0 with q | q
      · exact Or.inl (eb.trans q.1)
      · rw [← eb] at q; exact Or.inr ⟨q.1, q.2.1⟩
    rw [← eb] at hs
    refine aw_iload_n dX0_tightColumn_4 rfl ?_
    refine aw_aload_n dX0_tightColumn_5 rfl ?_
    refine aw_getI (kz := 7) dX0_tightColumn_6 flX0_34 rfl rfl rfl ?_
    refine aw_aload_n dX0_tightColumn_9 rfl ?_
    refine aw_getI (kz := 0) dX0_tightColumn_10 flX0_9 rfl rfl rfl ?_
    rw [e7, e0]
    refine aw_imul dX0_tightColumn_13 ?_
    refine aw_icmp_ge (tg := 55) dX0_tightColumn_14 (by decide) (by omega) (fun h14 => absurd h14 (by omega)) (fun h14 => ?_)
    refine aw_aload_n dX0_tightColumn_17 rfl ?_
    refine aw_getR dX0_tightColumn_18 flX0_21 rfl rfl ?_
    refine aw_iload_n dX0_tightColumn_21 rfl ?_
    refine aw_iald dX0_tightColumn_22 rfl (by omega) ?_
    rw [r1]
    refine aw_iload_n dX0_tightColumn_23 rfl ?_
    refine aw_icmp_lt (tg := 49) dX0_tightColumn_24 (by decide) (by omega) (fun h24 => ?_) (fun h24 => ?_)
    · refine aw_iinc (L2 := [_, _, _, _]) dX0_tightColumn_49 rfl (by decide) rfl rfl ?_
      refine aw_goto (tg := 4) dX0_tightColumn_52 (by decide) ?_
      rw [if_neg (by omega)] at hs
      exact ih (c + 1) _ (by omega) (by omega) hs.symm
    · refine aw_iload_n dX0_tightColumn_27 rfl ?_
      refine aw_iconst dX0_tightColumn_28 ?_
      refine aw_icmp_eq (tg := 47) dX0_tightColumn_29 (by decide) (by omega) (fun h29 => ?_) (fun h29 => ?_)
      · refine aw_iload_n dX0_tightColumn_47 rfl ?_
        refine aw_istore_n (L2 := [_, _, _, _]) dX0_tightColumn_48 (by decide) rfl rfl ?_
        refine aw_iinc (L2 := [_, _, _, _]) dX0_tightColumn_49 rfl (by decide) rfl rfl ?_
        refine aw_goto (tg := 4) dX0_tightColumn_52 (by decide) ?_
        rw [if_pos (by omega)] at hs
        exact ih (c + 1) _ (by omega) (by omega) hs.symm
      · have r2 := hr best best (by omega) (by omega) (by omega)
        have b2 := hrb best (by omega) (by omega)
        refine aw_aload_n dX0_tightColumn_32 rfl ?_
        refine aw_getR dX0_tightColumn_33 flX0_21 rfl rfl ?_
        refine aw_iload_n dX0_tightColumn_36 rfl ?_
        refine aw_iald dX0_tightColumn_37 rfl (by omega) ?_
        rw [r1]
        refine aw_aload_n dX0_tightColumn_38 rfl ?_
        refine aw_getR dX0_tightColumn_39 flX0_21 rfl rfl ?_
        refine aw_iload_n dX0_tightColumn_42 rfl ?_
        refine aw_iald dX0_tightColumn_43 rfl (by omega) ?_
        rw [r2]
        refine aw_icmp_ge (tg := 49) dX0_tightColumn_44 (by decide) (by omega) (fun h44 => ?_) (fun h44 => ?_)
        · refine aw_iinc (L2 := [_, _, _, _]) dX0_tightColumn_49 rfl (by decide) rfl rfl ?_
          refine aw_goto (tg := 4) dX0_tightColumn_52 (by decide) ?_
          rw [if_neg (by omega)] at hs
          exact ih (c + 1) _ (by omega) (by omega) hs.symm
        · refine aw_iload_n dX0_tightColumn_47 rfl ?_
          refine aw_istore_n (L2 := [_, _, _, _]) dX0_tightColumn_48 (by decide) rfl rfl ?_
          refine aw_iinc (L2 := [_, _, _, _]) dX0_tightColumn_49 rfl (by decide) rfl rfl ?_
          refine aw_goto (tg := 4) dX0_tightColumn_52 (by decide) ?_
          rw [if_pos (by omega)] at hs
          exact ih (c + 1) _ (by omega) (by omega) hs.symm
theorem tX0_tightColumn (d : Nat) {C sh h : Int} {rm : Int → Int} {g : sp_G} {Q : sp_P} (hh : 0 ≤ h ∧ h ≤ 30) (e0 : g 45 0 = C) (e7 : g 45 7 = sh) (hr : rH g 46 0 (sh * C) rm) (hrb : ∀ c, 0 ≤ c → c < sh * C → 0 ≤ rm c ∧ rm c ≤ 30) (hp : 1 ≤ sh * C ∧ sh * C ≤ 12) (hQ : Q (some (v_i (scI 2 h rm (sh * C)))) g) : sp_Met d mX0_tightColumn [v_r 45, v_i h] g Q := by
  refine sp_of (L := [_, _, _, _]) (by decide) (Nat.le_of_ble_eq_true rfl) rfl rfl ?_
  refine aw_iconst dX0_tightColumn_0 ?_
  refine aw_istore_n (L2 := [_, _, _, _]) dX0_tightColumn_1 (by decide) rfl rfl ?_
  refine aw_iconst dX0_tightColumn_2 ?_
  refine aw_istore_n (L2 := [_, _, _, _]) dX0_tightColumn_3 (by decide) rfl rfl ?_
  exact lX0_tightColumn d hh e0 e7 hr hrb hp hQ (sh * C).toNat 0 (-1) (by omega) (by omega) rfl
theorem lX0_looseColumn (d : Nat) {C sh h : Int} {rm : Int → Int} {g : sp_G} {Q : sp_P} (hh : 0 ≤ h ∧ h ≤ 30) (e0 : g 45 0 = C) (e7 : g 45 7 = sh) (hr : rH g 46 0 (sh * C) rm) (hrb : ∀ c, 0 ≤ c → c < sh * C → 0 ≤ rm c ∧ rm c ≤ 30) (hp : 1 ≤ sh * C ∧ sh * C ≤ 12) (hQ : Q (some (v_i (scI 3 h rm (sh * C)))) g) :
    ∀ (n : Nat) (c best : Int), 0 ≤ c → c + n = sh * C → best = scI 3 h rm c → sp_AW mX0_looseColumn d 4 [some (v_r 45), some (v_i h), some (v_i best), some (v_i c)] [] g Q := by
  intro n
  induction n with
  | zero =>
    intro c best h0 hn eb
    have ec : c = sh * C := by omega
    subst ec
    refine aw_iload_n dX0_looseColumn_4 rfl ?_
    refine aw_aload_n dX0_looseColumn_5 rfl ?_
    refine aw_getI (kz := 7) dX0_looseColumn_6 flX0_34 rfl rfl rfl ?_
    refine aw_aload_n dX0_looseColumn_9 rfl ?_
    refine aw_getI (kz := 0) dX0_looseColumn_10 flX0_9 rfl rfl rfl ?_
    rw [e7, e0]
    refine aw_imul dX0_looseColumn_13 ?_
    refine aw_icmp_ge (tg := 55) dX0_looseColumn_14 (by decide) (by omega) (fun h14 => ?_) (fun h14 => absurd h14 (by omega))
    refine aw_iload_n dX0_looseColumn_55 rfl ?_
    refine aw_iret dX0_looseColumn_56 rfl ?_
    rw [eb]
    exact hQ
  | succ n ih =>
    intro c best h0 hn eb
    have r1 := hr c c h0 (by omega) (by omega)
    have b1 := hrb c h0 (by omega)
    have hs := scI_s (R := 3) (h := h) (rm := rm) h0
    have hb : best = -1 ∨ (0 ≤ best ∧ best < c) := by
      rcases scI_p (R := 3) (h := h) (rm := rm) h0 with q | q
      · exact Or.inl (eb.trans q.1)
      · rw [← eb] at q; exact Or.inr ⟨q.1, q.2.1⟩
    rw [← eb] at hs
    refine aw_iload_n dX0_looseColumn_4 rfl ?_
    refine aw_aload_n dX0_looseColumn_5 rfl ?_
    refine aw_getI (kz := 7) dX0_looseColumn_6 flX0_34 rfl rfl rfl ?_
    refine aw_aload_n dX0_looseColumn_9 rfl ?_
    refine aw_getI (kz := 0) dX0_looseColumn_10 flX0_9 rfl rfl rfl ?_
    rw [e7, e0]
    refine aw_imul dX0_looseColumn_13 ?_
    refine aw_icmp_ge (tg := 55) dX0_looseColumn_14 (by decide) (by omega) (fun h14 => absurd h14 (by omega)) (fun h14 => ?_)
    refine aw_aload_n dX0_looseColumn_17 rfl ?_
    refine aw_getR dX0_looseColumn_18 flX0_21 rfl rfl ?_
    refine aw_iload_n dX0_looseColumn_21 rfl ?_
    refine aw_iald dX0_looseColumn_22 rfl (by omega) ?_
    rw [r1]
    refine aw_iload_n dX0_looseColumn_23 rfl ?_
    refine aw_icmp_lt (tg := 49) dX0_looseColumn_24 (by decide) (by omega) (fun h24 => ?_) (fun h24 => ?_)
    · refine aw_iinc (L2 := [_, _, _, _]) dX0_looseColumn_49 rfl (by decide) rfl rfl ?_
      refine aw_goto (tg := 4) dX0_looseColumn_52 (by decide) ?_
      rw [if_neg (by omega)] at hs
      exact ih (c + 1) _ (by omega) (by omega) hs.symm
    · refine aw_iload_n dX0_looseColumn_27 rfl ?_
      refine aw_iconst dX0_looseColumn_28 ?_
      refine aw_icmp_eq (tg := 47) dX0_looseColumn_29 (by decide) (by omega) (fun h29 => ?_) (fun h29 => ?_)
      · refine aw_iload_n dX0_looseColumn_47 rfl ?_
        refine aw_istore_n (L2 := [_, _, _, _]) dX0_looseColumn_48 (by decide) rfl rfl ?_
        refine aw_iinc (L2 := [_, _, _, _]) dX0_looseColumn_49 rfl (by decide) rfl rfl ?_
        refine aw_goto (tg := 4) dX0_looseColumn_52 (by decide) ?_
        rw [if_pos (by omega)] at hs
        exact ih (c + 1) _ (by omega) (by omega) hs.symm
      · have r2 := hr best best (by omega) (by omega) (by omega)
        have b2 := hrb best (by omega) (by omega)
        refine aw_aload_n dX0_looseColumn_32 rfl ?_
        refine aw_getR dX0_looseColumn_33 flX0_21 rfl rfl ?_
        refine aw_iload_n dX0_looseColumn_36 rfl ?_
        refine aw_iald dX0_looseColumn_37 rfl (by omega) ?_
        rw [r1]
        refine aw_aload_n dX0_looseColumn_38 rfl ?_
        refine aw_getR dX0_looseColumn_39 flX0_21 rfl rfl ?_
        refine aw_iload_n dX0_looseColumn_42 rfl ?_
        refine aw_iald dX0_looseColumn_43 rfl (by omega) ?_
        rw [r2]
        refine aw_icmp_le (tg := 49) dX0_looseColumn_44 (by decide) (by omega) (fun h44 => ?_) (fun h44 => ?_)
        · refine aw_iinc (L2 := [_, _, _, _]) dX0_looseColumn_49 rfl (by decide) rfl rfl ?_
          refine aw_goto (tg := 4) dX0_looseColumn_52 (by decide) ?_
          rw [if_neg (by omega)] at hs
          exact ih (c + 1) _ (by omega) (by omega) hs.symm
        · refine aw_iload_n dX0_looseColumn_47 rfl ?_
          refine aw_istore_n (L2 := [_, _, _, _]) dX0_looseColumn_48 (by decide) rfl rfl ?_
          refine aw_iinc (L2 := [_, _, _, _]) dX0_looseColumn_49 rfl (by decide) rfl rfl ?_
          refine aw_goto (tg := 4) dX0_looseColumn_52 (by decide) ?_
          rw [if_pos (by omega)] at hs
          exact ih (c + 1) _ (by omega) (by omega) hs.symm
theorem tX0_looseColumn (d : Nat) {C sh h : Int} {rm : Int → Int} {g : sp_G} {Q : sp_P} (hh : 0 ≤ h ∧ h ≤ 30) (e0 : g 45 0 = C) (e7 : g 45 7 = sh) (hr : rH g 46 0 (sh * C) rm) (hrb : ∀ c, 0 ≤ c → c < sh * C → 0 ≤ rm c ∧ rm c ≤ 30) (hp : 1 ≤ sh * C ∧ sh * C ≤ 12) (hQ : Q (some (v_i (scI 3 h rm (sh * C)))) g) : sp_Met d mX0_looseColumn [v_r 45, v_i h] g Q := by
  refine sp_of (L := [_, _, _, _]) (by decide) (Nat.le_of_ble_eq_true rfl) rfl rfl ?_
  refine aw_iconst dX0_looseColumn_0 ?_
  refine aw_istore_n (L2 := [_, _, _, _]) dX0_looseColumn_1 (by decide) rfl rfl ?_
  refine aw_iconst dX0_looseColumn_2 ?_
  refine aw_istore_n (L2 := [_, _, _, _]) dX0_looseColumn_3 (by decide) rfl rfl ?_
  exact lX0_looseColumn d hh e0 e7 hr hrb hp hQ (sh * C).toNat 0 (-1) (by omega) (by omega) rfl
theorem tX0_columnFor (d : Nat) {C sh la h R : Int} {rm : Int → Int} {g : sp_G} {Q : sp_P} (hh : 0 ≤ h ∧ h ≤ 30) (e0 : g 45 0 = C) (e7 : g 45 7 = sh) (hr : rH g 46 0 (sh * C) rm) (hrb : ∀ c, 0 ≤ c → c < sh * C → 0 ≤ rm c ∧ rm c ≤ 30) (hp : 1 ≤ sh * C ∧ sh * C ≤ 12) (e8 : g 45 8 = la) (hla : 0 ≤ la ∧ la < sh * C) (hR : 0 ≤ R ∧ R ≤ 3) (hQ : Q (some (v_i (fC R h C rm sh la))) g) : sp_Met (d + 1) mX0_columnFor [v_r 45, v_i h, v_i R] g Q := by
  refine sp_of (L := [_, _, _]) (by decide) (Nat.le_of_ble_eq_true rfl) rfl rfl ?_
  unfold fC at hQ
  refine aw_iload_n dX0_columnFor_0 rfl ?_
  rcases (show R = 0 ∨ R = 1 ∨ R = 2 ∨ R = 3 by omega) with h9 | h9 | h9 | h9
  · subst h9
    rw [if_pos rfl] at hQ
    refine aw_tin (tg := 28) dX0_columnFor_1 (by omega) (by omega) rfl (by decide) ?_
    refine aw_aload_n dX0_columnFor_28 rfl ?_
    refine aw_iload_n dX0_columnFor_29 rfl ?_
    refine aw_V1 dX0_columnFor_30 okX0_nextColumn lkX0_64 rfl rfl rfl ?_
    refine tX0_nextColumn d hh e0 e7 hr hrb hp e8 hla ?_
    refine aw_iret dX0_columnFor_33 rfl ?_
    exact hQ
  · subst h9
    rw [if_neg (by decide)] at hQ
    refine aw_tin (tg := 34) dX0_columnFor_1 (by omega) (by omega) rfl (by decide) ?_
    refine aw_aload_n dX0_columnFor_34 rfl ?_
    refine aw_iload_n dX0_columnFor_35 rfl ?_
    refine aw_V1 dX0_columnFor_36 okX0_firstColumn lkX0_68 rfl rfl rfl ?_
    refine tX0_firstColumn d hh e0 e7 hr hrb hp ?_
    refine aw_iret dX0_columnFor_39 rfl ?_
    exact hQ
  · subst h9
    rw [if_neg (by decide)] at hQ
    refine aw_tin (tg := 40) dX0_columnFor_1 (by omega) (by omega) rfl (by decide) ?_
    refine aw_aload_n dX0_columnFor_40 rfl ?_
    refine aw_iload_n dX0_columnFor_41 rfl ?_
    refine aw_V1 dX0_columnFor_42 okX0_tightColumn lkX0_71 rfl rfl rfl ?_
    refine tX0_tightColumn d hh e0 e7 hr hrb hp ?_
    refine aw_iret dX0_columnFor_45 rfl ?_
    exact hQ
  · subst h9
    rw [if_neg (by decide)] at hQ
    refine aw_tout (tg := 46) dX0_columnFor_1 (by omega) (by omega) (by decide) ?_
    refine aw_aload_n dX0_columnFor_46 rfl ?_
    refine aw_iload_n dX0_columnFor_47 rfl ?_
    refine aw_V1 dX0_columnFor_48 okX0_looseColumn lkX0_74 rfl rfl rfl ?_
    refine tX0_looseColumn d hh e0 e7 hr hrb hp ?_
    refine aw_iret dX0_columnFor_51 rfl ?_
    exact hQ
theorem l_put {g : sp_G} {row : Nat} {n x : Int} {f : Int → Int} (h : rH g row 0 n f) : rH (sp_up g row n x) row 0 (n + 1) (up1 f n x) := fun i j i0 i1 e => by
  by_cases hi : i = n
  · rw [show j = n by omega, sp_up_s, hi, up1_s]
  · rw [sp_up_i _ _ _ _ (by omega), up1_n _ _ hi]
    exact h i j i0 (by omega) e
/-- a contest laid, but for the layer's row and the count -/
def lO (g : sp_G) (C h l c : Int) (S S2 : lT) : Prop := g 45 7 = l_sh S2 ∧ g 45 8 = l_la S2 ∧ g 45 9 = l_br S2 ∧ g 45 6 = l_ct S ∧ rH g 46 0 (l_sh S2 * C) (l_rm S2) ∧ (l_br S2 = 0 → rH g 48 0 (l_ct S + 1) (l_co S2))
theorem tX0_layOne (d : Nat) {C D R h l : Int} {S : lT} {g : sp_G} {Q : sp_P} (hV : lV C D R S) (hct : l_ct S ≤ 3) (hh : 0 ≤ h ∧ h ≤ 30) (e0 : g 45 0 = C) (e1 : g 45 1 = D) (hS : g 45 7 = l_sh S ∧ g 45 8 = l_la S ∧ g 45 9 = l_br S ∧ g 45 6 = l_ct S ∧ rH g 46 0 (l_sh S * C) (l_rm S) ∧ (l_br S = 0 → rH g 48 0 (l_ct S) (l_co S))) (hQ : ∀ g2 : sp_G, pFr g g2 → sp_fr [45, 46, 48] g g2 → lO g2 C h l 0 S (lS C D R h l S) → Q none g2) : sp_Met (d + 2) mX0_layOne [v_r 45, v_i h, v_i R] g Q := by
  refine sp_of (L := [_, _, _, _]) (by decide) (Nat.le_of_ble_eq_true rfl) rfl rfl ?_
  obtain ⟨c1, c2, c3, c4, c5, c6⟩ := hS
  have hV0 := hV
  obtain ⟨v1, v2, v3, v4, v5, v6, v7, v8, v9, v10⟩ := hV
  have m := l_mul (sh := l_sh S) v1 v4
  have hfc := fC_p (h := h) hV0
  have hsh4 : l_sh S ≤ 4 := by omega
  have m12 := m.2.1 hsh4
  unfold lS at hQ
  refine aw_iload_n dX0_layOne_0 rfl ?_
  refine aw_aload_n dX0_layOne_1 rfl ?_
  refine aw_getI (kz := 1) dX0_layOne_2 flX0_15 rfl rfl rfl ?_
  rw [e1]
  refine aw_icmp_le (tg := 13) dX0_layOne_5 (by decide) (by omega) (fun k5 => ?_) (fun k5 => ?_)
  · refine aw_aload_n dX0_layOne_13 rfl ?_
    refine aw_getI (kz := 9) dX0_layOne_14 flX0_40 rfl rfl rfl ?_
    rw [c3]
    refine aw_if_eq (tg := 21) dX0_layOne_17 (by decide) (by omega) (fun k17 => ?_) (fun k17 => ?_)
    · refine aw_aload_n dX0_layOne_21 rfl ?_
      refine aw_iload_n dX0_layOne_22 rfl ?_
      refine aw_iload_n dX0_layOne_23 rfl ?_
      refine aw_V2 dX0_layOne_24 okX0_columnFor lkX0_61 rfl rfl rfl ?_
      rw [if_neg (by omega)] at hQ
      refine tX0_columnFor d hh e0 c1 c5 v7 (by omega) c2 v6 v3 ?_
      generalize hfe : fC R h C (l_rm S) (l_sh S) (l_la S) = cc at *
      refine aw_istore_n (L2 := [_, _, _, _]) dX0_layOne_27 (by decide) rfl rfl ?_
      refine aw_iload_n dX0_layOne_28 rfl ?_
      refine aw_iconst dX0_layOne_29 ?_
      refine aw_icmp_ne (tg := 47) dX0_layOne_30 (by decide) (by omega) (fun k30 => ?_) (fun k30 => ?_)
      · rw [if_neg (by omega)] at hQ
        have hcb : 0 ≤ cc ∧ cc < l_sh S * C ∧ h ≤ l_rm S cc := by omega
        have r1 := c5 cc cc hcb.1 hcb.2.1 (by omega)
        refine aw_aload_n dX0_layOne_47 rfl ?_
        refine aw_getR dX0_layOne_48 flX0_21 rfl rfl ?_
        refine aw_iload_n dX0_layOne_51 rfl ?_
        refine aw_dup2 dX0_layOne_52 rfl rfl ?_
        refine aw_iald dX0_layOne_53 rfl (by omega) ?_
        rw [r1]
        refine aw_iload_n dX0_layOne_54 rfl ?_
        refine aw_isub dX0_layOne_55 ?_
        refine aw_iast dX0_layOne_56 rfl (by omega) ?_
        refine aw_aload_n dX0_layOne_57 rfl ?_
        refine aw_getR dX0_layOne_58 flX0_28 rfl rfl ?_
        refine aw_aload_n dX0_layOne_61 rfl ?_
        refine aw_getI (kz := 6) dX0_layOne_62 flX0_31 rfl rfl rfl ?_
        rw [sp_up_o _ _ _ _ (by decide), c4]
        refine aw_iload_n dX0_layOne_65 rfl ?_
        refine aw_iast dX0_layOne_66 rfl (by omega) ?_
        refine aw_aload_n dX0_layOne_67 rfl ?_
        refine aw_iload_n dX0_layOne_68 rfl ?_
        refine aw_putI (kz := 8) dX0_layOne_69 flX0_37 fi_0_8 rfl rfl rfl  ?_
        refine aw_vret dX0_layOne_72 rfl ?_
        refine hQ _ (((pFr.rf.up (by decide) (by omega)).up (by decide) (by omega)).up (by decide) (by omega)) (((sp_fr.rf.up (by decide)).up (by decide)).up (by decide)) ⟨?_, sp_up_s _ _ _ _, ?_, ?_, ?_, fun _ => ?_⟩
        · rw [sp_up_i _ _ _ _ (by decide), sp_up_o _ _ _ _ (by decide), sp_up_o _ _ _ _ (by decide)]; exact c1
        · rw [sp_up_i _ _ _ _ (by decide), sp_up_o _ _ _ _ (by decide), sp_up_o _ _ _ _ (by decide), c3]; show l_br S = 0; omega
        · rw [sp_up_i _ _ _ _ (by decide), sp_up_o _ _ _ _ (by decide), sp_up_o _ _ _ _ (by decide)]; exact c4
        · exact ((c5.up (i := cc) (by omega)).ne (by decide)).ne (by decide)
        · exact (l_put ((c6 (by omega)).ne (by decide))).ne (by decide)
      · rw [if_pos (by omega)] at hQ
        have hct2 : l_sh S ≤ l_ct S := by omega
        have m1 := m.1 (by omega)
        refine aw_aload_n dX0_layOne_33 rfl ?_
        refine aw_getI (kz := 7) dX0_layOne_34 flX0_34 rfl rfl rfl ?_
        rw [c1]
        refine aw_aload_n dX0_layOne_37 rfl ?_
        refine aw_getI (kz := 0) dX0_layOne_38 flX0_9 rfl rfl rfl ?_
        rw [e0]
        refine aw_imul dX0_layOne_41 ?_
        refine aw_istore_n (L2 := [_, _, _, _]) dX0_layOne_42 (by decide) rfl rfl ?_
        refine aw_aload_n dX0_layOne_43 rfl ?_
        refine aw_V0 dX0_layOne_44 okX0_beginSheet lkX0_44 rfl rfl rfl ?_
        refine tX0_beginSheet (d + 1) v1 (by omega) e0 e1 c1 c5 (fun g2 hf hr => ?_)
        have hz : bg C D (l_sh S) (l_rm S) (l_sh S * C) = D := by unfold bg; rw [if_pos (by omega)]
        have r1 : sp_up g2 45 7 (l_sh S + 1) 46 (l_sh S * C) = D := by rw [sp_up_o _ _ _ _ (by decide), hr (l_sh S * C) _ (by omega) (by omega) (by omega), hz]
        have q6 : ∀ (j : Int), g2 45 j = g 45 j := fun j => hf 45 (by decide) j
        refine aw_aload_n dX0_layOne_47 rfl ?_
        refine aw_getR dX0_layOne_48 flX0_21 rfl rfl ?_
        refine aw_iload_n dX0_layOne_51 rfl ?_
        refine aw_dup2 dX0_layOne_52 rfl rfl ?_
        refine aw_iald dX0_layOne_53 rfl (by omega) ?_
        rw [r1]
        refine aw_iload_n dX0_layOne_54 rfl ?_
        refine aw_isub dX0_layOne_55 ?_
        refine aw_iast dX0_layOne_56 rfl (by omega) ?_
        refine aw_aload_n dX0_layOne_57 rfl ?_
        refine aw_getR dX0_layOne_58 flX0_28 rfl rfl ?_
        refine aw_aload_n dX0_layOne_61 rfl ?_
        refine aw_getI (kz := 6) dX0_layOne_62 flX0_31 rfl rfl rfl ?_
        rw [sp_up_o _ _ _ _ (by decide), sp_up_i _ _ _ _ (by decide), q6, c4]
        refine aw_iload_n dX0_layOne_65 rfl ?_
        refine aw_iast dX0_layOne_66 rfl (by omega) ?_
        refine aw_aload_n dX0_layOne_67 rfl ?_
        refine aw_iload_n dX0_layOne_68 rfl ?_
        refine aw_putI (kz := 8) dX0_layOne_69 flX0_37 fi_0_8 rfl rfl rfl  ?_
        refine aw_vret dX0_layOne_72 rfl ?_
        have hp2 : pFr g g2 := ⟨hf.wk (by decide), q6 0, q6 1, q6 2⟩
        refine hQ _ ((((hp2.up (by decide) (by omega)).up (by decide) (by omega)).up (by decide) (by omega)).up (by decide) (by omega)) ((((hf.wk (by decide)).up (by decide)).up (by decide)).up (by decide) |>.up (by decide)) ⟨?_, sp_up_s _ _ _ _, ?_, ?_, ?_, fun _ => ?_⟩
        · rw [sp_up_i _ _ _ _ (by decide), sp_up_o _ _ _ _ (by decide), sp_up_o _ _ _ _ (by decide), sp_up_s]; rfl
        · rw [sp_up_i _ _ _ _ (by decide), sp_up_o _ _ _ _ (by decide), sp_up_o _ _ _ _ (by decide), sp_up_i _ _ _ _ (by decide), q6, c3]; show l_br S = 0; omega
        · rw [sp_up_i _ _ _ _ (by decide), sp_up_o _ _ _ _ (by decide), sp_up_o _ _ _ _ (by decide), sp_up_i _ _ _ _ (by decide), q6]; exact c4
        · have hr3 : rH (sp_up g2 45 7 (l_sh S + 1)) 46 0 ((l_sh S + 1) * C) (bg C D (l_sh S) (l_rm S)) := by rw [m1.1]; exact hr.ne (by decide)
          refine (((hr3.up (i := l_sh S * C) (by omega)).ne (by decide)).ne (by decide)).c (fun i i0 i1 => ?_)
          show _ = up1 (bg C D (l_sh S) (l_rm S)) (l_sh S * C) (bg C D (l_sh S) (l_rm S) (l_sh S * C) - h) i
          rw [hz]
          rfl
        · exact (l_put ((((c6 (by omega)).fr hf (by decide)).ne (by decide)).ne (by decide))).ne (by decide)
    · refine aw_vret dX0_layOne_20 rfl ?_
      rw [if_pos (by omega)] at hQ
      exact hQ g pFr.rf sp_fr.rf ⟨c1, c2, by rw [c3]; show l_br S = 1; omega, c4, c5, fun e => absurd e (by show ¬ (1 : Int) = 0; omega)⟩
  · refine aw_aload_n dX0_layOne_8 rfl ?_
    refine aw_iconst dX0_layOne_9 ?_
    refine aw_putZ (kz := 9) dX0_layOne_10 flX0_40 fi_0_9 rfl rfl rfl (by omega) ?_
    rw [if_pos (by omega)] at hQ
    refine aw_aload_n dX0_layOne_13 rfl ?_
    refine aw_getI (kz := 9) dX0_layOne_14 flX0_40 rfl rfl rfl ?_
    rw [sp_up_s]
    refine aw_if_eq (tg := 21) dX0_layOne_17 (by decide) (by omega) (fun m17 => absurd m17 (by omega)) (fun m17 => ?_)
    refine aw_vret dX0_layOne_20 rfl ?_
    refine hQ _ (pFr.rf.up (by decide) (by decide)) (sp_fr.rf.up (by decide)) ⟨?_, ?_, sp_up_s _ _ _ _, ?_, c5.ne (by decide), fun e => absurd e (by show ¬ (1 : Int) = 0; omega)⟩
    · rw [sp_up_i _ _ _ _ (by decide)]; exact c1
    · rw [sp_up_i _ _ _ _ (by decide)]; exact c2
    · rw [sp_up_i _ _ _ _ (by decide)]; exact c4
theorem lX0_layC (d : Nat) {pe di na : Int → Int} {on a C D R : Int} {g0 : sp_G} {Q : sp_P} (hv : tV pe di na on) (ha : 0 ≤ a ∧ a < 24) (hC : 1 ≤ C ∧ C ≤ 3) (hD : 4 ≤ D ∧ D ≤ 30) (hR : 0 ≤ R ∧ R ≤ 3) (e0 : g0 45 0 = C) (e1 : g0 45 1 = D) (hTC : tC g0 pe di na on) (hQ : ∀ g : sp_G, pFr g0 g → lC g C (lI C D R on (hT di na a) 4) → Q none g) :
    ∀ (n : Nat) (l : Int) (g : sp_G), 0 ≤ l → l + n = 4 → pFr g0 g → lC g C (lI C D R on (hT di na a) l) → sp_AW mX0_layContests (d + 3) 27 [some (v_r 45), some (v_r 1), some (v_i a), some (v_i R), some (v_i l)] [] g Q := by
  intro n
  induction n with
  | zero =>
    intro l g h0 hn hp hl
    have el : l = 4 := by omega
    subst el
    refine aw_iload dX0_layContests_27 rfl ?_
    refine aw_iconst dX0_layContests_29 ?_
    refine aw_icmp_ge (tg := 81) dX0_layContests_30 (by decide) (by omega) (fun h30 => ?_) (fun h30 => absurd h30 (by omega))
    refine aw_vret dX0_layContests_81 rfl ?_
    exact hQ g hp hl
  | succ n ih =>
    intro l g h0 hn hp hl
    have hbl := bt_01 (on := on) (l := l) hv.2.2.2 (by omega)
    have hhb := hT_b (a := a) (l := l) hv ha (by omega)
    have hI := lI_V (C := C) (D := D) (R := R) (on := on) (ht := hT di na a) hC hD hR (fun l l0 l1 => by have := hT_b (a := a) (l := l) hv ha ⟨l0, l1⟩; omega) h0 (by omega)
    have hs := lI_s (C := C) (D := D) (R := R) (on := on) (ht := hT di na a) h0
    generalize lI C D R on (hT di na a) l = S at *
    have hon : g 1 3 = on := by rw [hp.1 1 (by decide)]; exact hTC.2.2.2
    obtain ⟨c1, c2, c3, c4, c5, c6, c7⟩ := hl
    have hd3 : g 3 (l * 24 + a) = di (l * 24 + a) := by rw [hp.1 3 (by decide)]; exact hTC.2.1 (l * 24 + a) _ (by omega) (by omega) (by omega)
    have hn4 : g 4 (l * 6 + di (l * 24 + a)) = na (l * 6 + di (l * 24 + a)) := by rw [hp.1 4 (by decide)]; exact hTC.2.2.1 (l * 6 + di (l * 24 + a)) _ (by omega) (by omega) (by omega)
    refine aw_iload dX0_layContests_27 rfl ?_
    refine aw_iconst dX0_layContests_29 ?_
    refine aw_icmp_ge (tg := 81) dX0_layContests_30 (by decide) (by omega) (fun h30 => absurd h30 (by omega)) (fun h30 => ?_)
    refine aw_aload_n dX0_layContests_33 rfl ?_
    refine aw_iload dX0_layContests_34 rfl ?_
    refine aw_V1 dX0_layContests_36 okX4_isOn lkX0_47 rfl rfl rfl ?_
    refine tX4_isOn (d + 2) (by rw [hon]; exact hbl) ?_
    rw [hon]
    refine aw_ifeq_b (tg := 75) dX0_layContests_39 (by decide) (fun h39 => ?_) (fun h39 => ?_)
    · refine aw_iinc (L2 := [_, _, _, _, _]) dX0_layContests_75 rfl (by decide) rfl rfl ?_
      refine aw_goto (tg := 27) dX0_layContests_78 (by decide) ?_
      rw [if_neg h39] at hs
      exact ih (l + 1) g (by omega) (by omega) hp (by rw [hs]; exact ⟨c1, c2, c3, c4, c5, c6, c7⟩)
    · refine aw_aload_n dX0_layContests_42 rfl ?_
      refine aw_getR dX0_layContests_43 flX0_25 rfl rfl ?_
      refine aw_aload_n dX0_layContests_46 rfl ?_
      
      refine aw_getI (kz := 6) dX0_layContests_47 flX0_31 rfl rfl rfl ?_
      refine aw_iload dX0_layContests_50 rfl ?_
      rw [c4]
      refine aw_iast dX0_layContests_52 rfl (by have := hI.1.2.2.2.2.2.2.2.2.1; omega) ?_
      refine aw_aload_n dX0_layContests_53 rfl ?_
      refine aw_aload_n dX0_layContests_54 rfl ?_
      refine aw_iload dX0_layContests_55 rfl ?_
      refine aw_iload_n dX0_layContests_57 rfl ?_
      refine aw_V2 dX0_layContests_58 okX4_heightAt lkX0_53 rfl rfl rfl ?_
      refine tX4_heightAt (d + 1) (by omega) (by rw [sp_up_o _ _ _ _ (by decide), hd3]; omega) ?_
      rw [sp_up_o _ _ _ _ (by decide), sp_up_o _ _ _ _ (by decide), hd3, hn4, show 2 + na (l * 6 + di (l * 24 + a)) = hT di na a l from rfl]
      refine aw_iload_n dX0_layContests_61 rfl ?_
      refine aw_V2 dX0_layContests_62 okX0_layOne lkX0_57 rfl rfl rfl ?_
      refine tX0_layOne (l := l) (C := C) (D := D) (R := R) (S := S) d hI.1 (by omega) (by omega) (by rw [sp_up_o _ _ _ _ (by decide), hp.2.1]; exact e0) (by rw [sp_up_o _ _ _ _ (by decide), hp.2.2.1]; exact e1) ⟨by rw [sp_up_o _ _ _ _ (by decide)]; exact c1, by rw [sp_up_o _ _ _ _ (by decide)]; exact c2, by rw [sp_up_o _ _ _ _ (by decide)]; exact c3, by rw [sp_up_o _ _ _ _ (by decide)]; exact c4, c5.ne (by decide), fun e => (c7 e).ne (by decide)⟩ (fun g2 hp2 hf2 hO => ?_)
      obtain ⟨o1, o2, o3, o4, o5, o6⟩ := hO
      refine aw_aload_n dX0_layContests_65 rfl ?_
      refine aw_dup dX0_layContests_66 rfl ?_
      refine aw_getI (kz := 6) dX0_layContests_67 flX0_31 rfl rfl rfl ?_
      rw [o4]
      refine aw_iconst dX0_layContests_70 ?_
      refine aw_iadd dX0_layContests_71 ?_
      refine aw_putI (kz := 6) dX0_layContests_72 flX0_31 fi_0_6 rfl rfl rfl  ?_
      refine aw_iinc (L2 := [_, _, _, _, _]) dX0_layContests_75 rfl (by decide) rfl rfl ?_
      refine aw_goto (tg := 27) dX0_layContests_78 (by decide) ?_
      rw [if_pos h39] at hs
      have hct := (lS_V (l := l) hI.1 (h := hT di na a l) (by omega) (by omega)).2
      have hlr : l_lr (lS C D R (hT di na a l) l S) = up1 (l_lr S) (l_ct S) l := by
        unfold lS
        split
        · rfl
        · split <;> rfl
      refine ih (l + 1) _ (by omega) (by omega) (((hp.up (o := 47) (by decide) (by omega)).tr hp2).up (by decide) (by omega)) ?_
      rw [hs]
      refine ⟨?_, ?_, ?_, ?_, o5.ne (by decide), ?_, fun e => ?_⟩
      · rw [sp_up_i _ _ _ _ (by decide)]; exact o1
      · rw [sp_up_i _ _ _ _ (by decide)]; exact o2
      · rw [sp_up_i _ _ _ _ (by decide)]; exact o3
      · rw [sp_up_s, hct]
      · rw [hct, hlr]
        exact ((l_put c6).fr hf2 (by decide)).ne (by decide)
      · rw [hct]
        exact (o6 e).ne (by decide)
theorem tX0_layContests (d : Nat) {pe di na : Int → Int} {on a C D R : Int} {g : sp_G} {Q : sp_P} (hv : tV pe di na on) (ha : 0 ≤ a ∧ a < 24) (hC : 1 ≤ C ∧ C ≤ 3) (hD : 4 ≤ D ∧ D ≤ 30) (hR : 0 ≤ R ∧ R ≤ 3) (e0 : g 45 0 = C) (e1 : g 45 1 = D) (hTC : tC g pe di na on) (hQ : ∀ g2 : sp_G, pFr g g2 → lC g2 C (lI C D R on (hT di na a) 4) → Q none g2) : sp_Met (d + 3) mX0_layContests [v_r 45, v_r 1, v_i a, v_i R] g Q := by
  refine sp_of (L := [_, _, _, _, _]) (by decide) (Nat.le_of_ble_eq_true rfl) rfl rfl ?_
  refine aw_aload_n dX0_layContests_0 rfl ?_
  refine aw_iconst dX0_layContests_1 ?_
  refine aw_putI (kz := 6) dX0_layContests_2 flX0_31 fi_0_6 rfl rfl rfl  ?_
  refine aw_aload_n dX0_layContests_5 rfl ?_
  refine aw_iconst dX0_layContests_6 ?_
  refine aw_putI (kz := 7) dX0_layContests_7 flX0_34 fi_0_7 rfl rfl rfl  ?_
  refine aw_aload_n dX0_layContests_10 rfl ?_
  refine aw_iconst dX0_layContests_11 ?_
  refine aw_putI (kz := 8) dX0_layContests_12 flX0_37 fi_0_8 rfl rfl rfl  ?_
  refine aw_aload_n dX0_layContests_15 rfl ?_
  refine aw_iconst dX0_layContests_16 ?_
  refine aw_putZ (kz := 9) dX0_layContests_17 flX0_40 fi_0_9 rfl rfl rfl (by omega) ?_
  refine aw_aload_n dX0_layContests_20 rfl ?_
  refine aw_V0 dX0_layContests_21 okX0_beginSheet lkX0_44 rfl rfl rfl ?_
  refine tX0_beginSheet (d + 2) (C := C) (D := D) (sh := 0) (rm := fun _ => 0) hC (by omega) ?_ ?_ ?_ (fun i j i0 i1 => by omega) (fun g2 hf hr => ?_)
  · rw [sp_up_i _ _ _ _ (by decide), sp_up_i _ _ _ _ (by decide), sp_up_i _ _ _ _ (by decide), sp_up_i _ _ _ _ (by decide)]; exact e0
  · rw [sp_up_i _ _ _ _ (by decide), sp_up_i _ _ _ _ (by decide), sp_up_i _ _ _ _ (by decide), sp_up_i _ _ _ _ (by decide)]; exact e1
  · rw [sp_up_i _ _ _ _ (by decide), sp_up_i _ _ _ _ (by decide), sp_up_s]
  refine aw_iconst dX0_layContests_24 ?_
  refine aw_istore (L2 := [_, _, _, _, _]) dX0_layContests_25 (by decide) rfl rfl ?_
  have q6 := fun (j : Int) => hf 45 (by decide) j
  have hp2 : pFr g g2 := by
    have := (((pFr.rf (g := g)).up (o := 45) (i := 6) (x := 0) (by decide) (by omega)).up (o := 45) (i := 7) (x := 0) (by decide) (by omega)).up (o := 45) (i := 8) (x := 0) (by decide) (by omega) |>.up (o := 45) (i := 9) (x := 0) (by decide) (by omega)
    exact this.tr ⟨hf.wk (by decide), q6 0, q6 1, q6 2⟩
  refine lX0_layC d hv ha hC hD hR e0 e1 hTC hQ 4 0 _ (by omega) (by omega) (hp2.up (by decide) (by omega)) ⟨?_, ?_, ?_, ?_, ?_, fun i j i0 i1 => ?_, fun _ i j i0 i1 => ?_⟩
  · rw [sp_up_s]; rfl
  · rw [sp_up_i _ _ _ _ (by decide), q6, sp_up_i _ _ _ _ (by decide), sp_up_s]; rfl
  · rw [sp_up_i _ _ _ _ (by decide), q6, sp_up_s]; rfl
  · rw [sp_up_i _ _ _ _ (by decide), q6, sp_up_i _ _ _ _ (by decide), sp_up_i _ _ _ _ (by decide), sp_up_i _ _ _ _ (by decide), sp_up_s]; rfl
  · show rH _ 46 0 (1 * C) (bg C D 0 (fun _ => 0))
    rw [show 1 * C = 0 * C + C by omega]
    exact hr.ne (by decide)
  · have i1 : i < 0 := i1
    omega
  · have i1 : i < 0 := i1
    omega
theorem lX0_left (d : Nat) {C sh : Int} {rm : Int → Int} {g : sp_G} {Q : sp_P} (e0 : g 45 0 = C) (e7 : g 45 7 = sh) (hr : rH g 46 0 (sh * C) rm) (hp : 1 ≤ sh * C ∧ sh * C ≤ 12) (hQ : Q (some (v_i (sI rm (sh * C)))) g) :
    ∀ (n : Nat) (c left : Int), 0 ≤ c → c + n = sh * C → left = sI rm c → sp_AW mX0_roomLeft d 4 [some (v_r 45), some (v_i left), some (v_i c)] [] g Q := by
  intro n
  induction n with
  | zero =>
    intro c left h0 hn el
    have ec : c = sh * C := by omega
    subst ec
    refine aw_iload_n dX0_roomLeft_4 rfl ?_
    refine aw_aload_n dX0_roomLeft_5 rfl ?_
    refine aw_getI (kz := 7) dX0_roomLeft_6 flX0_34 rfl rfl rfl ?_
    refine aw_aload_n dX0_roomLeft_9 rfl ?_
    refine aw_getI (kz := 0) dX0_roomLeft_10 flX0_9 rfl rfl rfl ?_
    rw [e7, e0]
    refine aw_imul dX0_roomLeft_13 ?_
    refine aw_icmp_ge (tg := 32) dX0_roomLeft_14 (by decide) (by omega) (fun h14 => ?_) (fun h14 => absurd h14 (by omega))
    refine aw_iload_n dX0_roomLeft_32 rfl ?_
    refine aw_iret dX0_roomLeft_33 rfl ?_
    rw [el]
    exact hQ
  | succ n ih =>
    intro c left h0 hn el
    have r1 := hr c c h0 (by omega) (by omega)
    refine aw_iload_n dX0_roomLeft_4 rfl ?_
    refine aw_aload_n dX0_roomLeft_5 rfl ?_
    refine aw_getI (kz := 7) dX0_roomLeft_6 flX0_34 rfl rfl rfl ?_
    refine aw_aload_n dX0_roomLeft_9 rfl ?_
    refine aw_getI (kz := 0) dX0_roomLeft_10 flX0_9 rfl rfl rfl ?_
    rw [e7, e0]
    refine aw_imul dX0_roomLeft_13 ?_
    refine aw_icmp_ge (tg := 32) dX0_roomLeft_14 (by decide) (by omega) (fun h14 => absurd h14 (by omega)) (fun h14 => ?_)
    refine aw_iload_n dX0_roomLeft_17 rfl ?_
    refine aw_aload_n dX0_roomLeft_18 rfl ?_
    refine aw_getR dX0_roomLeft_19 flX0_21 rfl rfl ?_
    refine aw_iload_n dX0_roomLeft_22 rfl ?_
    refine aw_iald dX0_roomLeft_23 rfl (by omega) ?_
    rw [r1]
    refine aw_iadd dX0_roomLeft_24 ?_
    refine aw_istore_n (L2 := [_, _, _]) dX0_roomLeft_25 (by decide) rfl rfl ?_
    refine aw_iinc (L2 := [_, _, _]) dX0_roomLeft_26 rfl (by decide) rfl rfl ?_
    refine aw_goto (tg := 4) dX0_roomLeft_29 (by decide) ?_
    exact ih (c + 1) _ (by omega) (by omega) (by rw [sI_s _ h0, el])
theorem tX0_roomLeft (d : Nat) {C sh : Int} {rm : Int → Int} {g : sp_G} {Q : sp_P} (e0 : g 45 0 = C) (e7 : g 45 7 = sh) (hr : rH g 46 0 (sh * C) rm) (hp : 1 ≤ sh * C ∧ sh * C ≤ 12) (hQ : Q (some (v_i (sI rm (sh * C)))) g) : sp_Met d mX0_roomLeft [v_r 45] g Q := by
  refine sp_of (L := [_, _, _]) (by decide) (Nat.le_of_ble_eq_true rfl) rfl rfl ?_
  refine aw_iconst dX0_roomLeft_0 ?_
  refine aw_istore_n (L2 := [_, _, _]) dX0_roomLeft_1 (by decide) rfl rfl ?_
  refine aw_iconst dX0_roomLeft_2 ?_
  refine aw_istore_n (L2 := [_, _, _]) dX0_roomLeft_3 (by decide) rfl rfl ?_
  exact lX0_left d e0 e7 hr hp hQ (sh * C).toNat 0 0 (by omega) (by omega) rfl
