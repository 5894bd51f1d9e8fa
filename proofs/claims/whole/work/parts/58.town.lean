theorem lX4_i1 (d : Nat) {o n r nn mc ms x0 y0 : Nat} {g0 : sp_G} {f : sp_Fl} {Q : sp_BQ} (hs0 : sp_sh[o]? = some (.inl (4, [some n, some (n + 1), some (n + 2), none]))) (hr : r = n) (hs1 : sp_sh[r]? = some (.inr (0, 24, none))) (ho : o < n) (hf : f o 0 = true)
    (hk : ∀ g : sp_G, sp_fr [r] g0 g → rH g r 0 24 (fun _ => 1) → sp_BW mX4_init nn d mc ms 54 [some (v_r o), some (v_i 24)] [] x0 y0 (n + 3) g f Q) :
    ∀ (k : Nat) (i : Int) (g : sp_G), 0 ≤ i → i + k = 24 → sp_fr [r] g0 g → rH g r 0 i (fun _ => 1) → sp_BW mX4_init nn d mc ms 35 [some (v_r o), some (v_i i)] [] x0 y0 (n + 3) g f Q := by
  intro k
  induction k with
  | zero =>
    intro i g h0 hk2 hfr hrr
    have ei : i = 24 := by omega
    subst ei
    refine bw_iload_n dX4_init_35 rfl ?_
    refine bw_bipush dX4_init_36 (by decide) ?_
    refine bw_icmp_ge (tg := 54) dX4_init_38 (by decide) (by omega) (fun _ => ?_) (fun h => absurd h (by omega))
    exact hk g hfr hrr
  | succ k ih =>
    intro i g h0 hk2 hfr hrr
    refine bw_iload_n dX4_init_35 rfl ?_
    refine bw_bipush dX4_init_36 (by decide) ?_
    refine bw_icmp_ge (tg := 54) dX4_init_38 (by decide) (by omega) (fun h => absurd h (by omega)) (fun _ => ?_)
    refine bw_aload_n dX4_init_41 rfl ?_
    refine bw_getR (r := r) dX4_init_42 flX4_9 hs0 (by omega) (by rw [hr]; rfl) hf ?_
    refine bw_iload_n dX4_init_45 rfl ?_
    refine bw_iconst dX4_init_46 ?_
    refine bw_iast dX4_init_47 hs1 (by omega) (by omega) ?_
    refine bw_iinc (L2 := [_, _]) dX4_init_48 rfl (by decide) rfl rfl ?_
    refine bw_goto (tg := 35) dX4_init_51 (by decide) ?_
    refine ih (i + 1) _ (by omega) (by omega) (hfr.up (by simp)) (fun a b a0 a1 e => ?_)
    by_cases c : a = i
    · rw [show b = i by omega, sp_up_s]
    · rw [sp_up_i _ _ _ _ (by omega)]
      exact hrr a b a0 (by omega) e
theorem lX4_i2 (d : Nat) {o n r nn mc ms x0 y0 : Nat} {g0 : sp_G} {f : sp_Fl} {Q : sp_BQ} (hs0 : sp_sh[o]? = some (.inl (4, [some n, some (n + 1), some (n + 2), none]))) (hr : r = n + 2) (hs1 : sp_sh[r]? = some (.inr (0, 24, none))) (ho : o < n) (hf : f o 2 = true)
    (hk : ∀ g : sp_G, sp_fr [r] g0 g → rH g r 0 24 (fun _ => 2) → sp_BW mX4_init nn d mc ms 75 [some (v_r o), some (v_i 24)] [] x0 y0 (n + 3) g f Q) :
    ∀ (k : Nat) (i : Int) (g : sp_G), 0 ≤ i → i + k = 24 → sp_fr [r] g0 g → rH g r 0 i (fun _ => 2) → sp_BW mX4_init nn d mc ms 56 [some (v_r o), some (v_i i)] [] x0 y0 (n + 3) g f Q := by
  intro k
  induction k with
  | zero =>
    intro i g h0 hk2 hfr hrr
    have ei : i = 24 := by omega
    subst ei
    refine bw_iload_n dX4_init_56 rfl ?_
    refine bw_bipush dX4_init_57 (by decide) ?_
    refine bw_icmp_ge (tg := 75) dX4_init_59 (by decide) (by omega) (fun _ => ?_) (fun h => absurd h (by omega))
    exact hk g hfr hrr
  | succ k ih =>
    intro i g h0 hk2 hfr hrr
    refine bw_iload_n dX4_init_56 rfl ?_
    refine bw_bipush dX4_init_57 (by decide) ?_
    refine bw_icmp_ge (tg := 75) dX4_init_59 (by decide) (by omega) (fun h => absurd h (by omega)) (fun _ => ?_)
    refine bw_aload_n dX4_init_62 rfl ?_
    refine bw_getR (r := r) dX4_init_63 flX4_18 hs0 (by omega) (by rw [hr]; rfl) hf ?_
    refine bw_iload_n dX4_init_66 rfl ?_
    refine bw_iconst dX4_init_67 ?_
    refine bw_iast dX4_init_68 hs1 (by omega) (by omega) ?_
    refine bw_iinc (L2 := [_, _]) dX4_init_69 rfl (by decide) rfl rfl ?_
    refine bw_goto (tg := 56) dX4_init_72 (by decide) ?_
    refine ih (i + 1) _ (by omega) (by omega) (hfr.up (by simp)) (fun a b a0 a1 e => ?_)
    by_cases c : a = i
    · rw [show b = i by omega, sp_up_s]
    · rw [sp_up_i _ _ _ _ (by omega)]
      exact hrr a b a0 (by omega) e
def sp_f3 (f : sp_Fl) (o : Nat) : sp_Fl := sp_fs (sp_fs (sp_fs f o 0) o 1) o 2
theorem iX4 (d : Nat) {o n : Nat} {g : sp_G} {f : sp_Fl} {Q : sp_BQ} (hs0 : sp_sh[o]? = some (.inl (4, [some n, some (n + 1), some (n + 2), none]))) (hs1 : sp_sh[n]? = some (.inr (0, 24, none))) (hs2 : sp_sh[n + 1]? = some (.inr (0, 96, none))) (hs3 : sp_sh[n + 2]? = some (.inr (0, 24, none))) (ho : o < n) (hg : ∀ p, n ≤ p → ∀ j, g p j = 0)
    (hQ : ∀ g2 : sp_G, sp_fr [o, n, n + 2] g g2 → (∀ j, j ≠ 3 → g2 o j = g o j) → g2 o 3 = 1 → rH g2 n 0 24 (fun _ => 1) → rH g2 (n + 2) 0 24 (fun _ => 2) → Q (n + 3) g2 (sp_f3 f o)) : sp_BMet (d + 1) 3 144 mX4_init o n g f Q := by
  refine sp_bof (L := [_, _]) (by decide) (by decide) rfl rfl ?_
  refine bw_aload_n dX4_init_0 rfl ?_
  refine bw_obj dX4_init_1 oiX4 oi_1 oi_2 (by decide) ?_
  refine bw_aload_n dX4_init_4 rfl ?_
  refine bw_bipush dX4_init_5 (by decide) ?_
  refine bw_newa (N := 24) (ty := .int) dX4_init_7 hs1 rfl rfl (fun _ _ h => h) (fun _ => rfl) ac_int (by decide) (by decide) (by decide) (hg _ (by omega)) (by simp [sp_nr]; omega) (by simp [sp_nr]; omega) (by omega) (by omega) (by omega) ?_
  refine bw_putR dX4_init_9 flX4_9 fF_4_0 hs0 (by omega) rfl (by omega) ?_
  refine bw_aload_n dX4_init_12 rfl ?_
  refine bw_bipush dX4_init_13 (by decide) ?_
  refine bw_newa (N := 96) (ty := .int) dX4_init_15 hs2 rfl rfl (fun _ _ h => h) (fun _ => rfl) ac_int (by decide) (by decide) (by decide) (hg _ (by omega)) (by simp [sp_nr]; omega) (by simp [sp_nr]; omega) (by omega) (by omega) (by omega) ?_
  refine bw_putR dX4_init_17 flX4_15 fF_4_1 hs0 (by omega) rfl (by omega) ?_
  refine bw_aload_n dX4_init_20 rfl ?_
  refine bw_bipush dX4_init_21 (by decide) ?_
  refine bw_newa (N := 24) (ty := .int) dX4_init_23 hs3 rfl rfl (fun _ _ h => h) (fun _ => rfl) ac_int (by decide) (by decide) (by decide) (hg _ (by omega)) (by simp [sp_nr]; omega) (by simp [sp_nr]; omega) (by omega) (by omega) (by omega) ?_
  refine bw_putR dX4_init_25 flX4_18 fF_4_2 hs0 (by omega) rfl (by omega) ?_
  refine bw_aload_n dX4_init_28 rfl ?_
  refine bw_iconst dX4_init_29 ?_
  refine bw_putI (kz := 3) dX4_init_30 flX4_21 fi_4_3 hs0 (by omega) rfl rfl ?_
  refine bw_iconst dX4_init_33 ?_
  refine bw_istore_n (L2 := [_, _]) dX4_init_34 (by decide) rfl rfl ?_
  refine lX4_i1 _ hs0 rfl hs1 ho (by simp [sp_fs]) (fun g1 f1 r1 => ?_) 24 0 _ (by omega) (by omega) sp_fr.rf (fun a b a0 a1 => by omega)
  refine bw_iconst dX4_init_54 ?_
  refine bw_istore_n (L2 := [_, _]) dX4_init_55 (by decide) rfl rfl ?_
  refine lX4_i2 _ hs0 rfl hs3 ho (by simp [sp_fs]) (fun g2 f2 r2 => ?_) 24 0 _ (by omega) (by omega) sp_fr.rf (fun a b a0 a1 => by omega)
  refine bw_ret dX4_init_75 rfl rfl rfl ?_
  have e1 : ∀ p, p ≠ n → p ≠ n + 2 → ∀ j, g2 p j = sp_up g o 3 1 p j := fun p h1 h2 j => by rw [f2 p (by simpa using h2), f1 p (by simpa using h1)]
  refine hQ g2 (fun p hp j => ?_) (fun j hj => ?_) ?_ (fun a b a0 a1 e => ?_) r2
  · have h3 : p ≠ o ∧ p ≠ n ∧ p ≠ n + 2 := by simpa using hp
    rw [e1 p h3.2.1 h3.2.2, sp_up_o _ _ _ _ h3.1]
  · rw [e1 o (by omega) (by omega), sp_up_i _ _ _ _ hj]
  · rw [e1 o (by omega) (by omega), sp_up_s]
  · rw [f2 n (by simp)]
    exact r1 a b a0 a1 e
