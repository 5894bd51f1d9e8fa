theorem liX1_22 : Cond.methodLink RX1 22 yX4_init ∈ sp_T := sp_inT (List.mem_of_getElem? (i := 113) (by decide +kernel)) (by decide +kernel)
theorem sh_ring : ∀ i : Nat, i < 8 → sp_sh[7 + 4 * i]? = some (.inl (4, [some (7 + 4 * i + 1), some (7 + 4 * i + 1 + 1), some (7 + 4 * i + 1 + 2), none])) ∧ sp_sh[7 + 4 * i + 1]? = some (.inr (0, 24, none)) ∧ sp_sh[7 + 4 * i + 1 + 1]? = some (.inr (0, 96, none)) ∧ sp_sh[7 + 4 * i + 1 + 2]? = some (.inr (0, 24, none))
  | 0, _ => ⟨rfl, rfl, rfl, rfl⟩
  | 1, _ => ⟨rfl, rfl, rfl, rfl⟩
  | 2, _ => ⟨rfl, rfl, rfl, rfl⟩
  | 3, _ => ⟨rfl, rfl, rfl, rfl⟩
  | 4, _ => ⟨rfl, rfl, rfl, rfl⟩
  | 5, _ => ⟨rfl, rfl, rfl, rfl⟩
  | 6, _ => ⟨rfl, rfl, rfl, rfl⟩
  | 7, _ => ⟨rfl, rfl, rfl, rfl⟩
  | n + 8, h => absurd h (by omega)
theorem tyX4_d : ∀ (a b c : Nat) (j : Nat), j < 4 → defaultValue (tyX4 j) = vp_V (([some a, some b, some c, none] : List (Option Nat)).map (fun x => match x with | none => Value.int 0 | some _ => Value.null)) j
  | _, _, _, 0, _ => rfl
  | _, _, _, 1, _ => rfl
  | _, _, _, 2, _ => rfl
  | _, _, _, 3, _ => rfl
  | _, _, _, n + 4, h => absurd h (by omega)
theorem sp_fs_o (f : sp_Fl) {o k p j : Nat} (h : p ≠ o) : sp_fs f o k p j = f p j := by simp [sp_fs, h]
theorem sp_fs_n (f : sp_Fl) {o k j : Nat} (h : j ≠ k) : sp_fs f o k o j = f o j := by simp [sp_fs, h]
theorem f3N (f : sp_Fl) {o p j : Nat} (h : p ≠ o) : sp_f3 f o p j = f p j := by simp [sp_f3, sp_fs, h]
theorem fsN (f : sp_Fl) {o i p j : Nat} (h : p ≠ o) (h6 : p ≠ 6) : sp_fs (sp_f3 f o) 6 i p j = f p j := by rw [sp_fs_o _ h6, f3N f h]
/-- what stands of the ring -/
def rgI (g0 g : sp_G) (f0 f : sp_Fl) (i : Nat) : Prop := (∀ p, p < 5 → ∀ j, g p j = g0 p j) ∧ (∀ p, 7 + 4 * i ≤ p → ∀ j, g p j = 0) ∧ (g 5 1 = 0 ∧ g 5 2 = 0) ∧ (∀ p, p < 5 → ∀ k, f p k = f0 p k) ∧ (∀ p, 7 + 4 * i ≤ p → ∀ k, f p k = false) ∧ f 5 0 = true ∧ (∀ j, j < i → f 6 j = true) ∧ ∀ j, j < i → f (7 + 4 * j) 0 = true ∧ f (7 + 4 * j) 1 = true ∧ f (7 + 4 * j) 2 = true
theorem lX1_i (d : Nat) {g0 : sp_G} {f0 : sp_Fl} {Q : sp_BQ} (hQ : ∀ (g : sp_G) (f : sp_Fl), rgI g0 g f0 f 8 → Q 39 g f) :
    ∀ (k i : Nat) (m : Int) (g : sp_G) (f : sp_Fl), i + k = 8 → m = i → rgI g0 g f0 f i → sp_BW mX1_init 6 (d + 2) 33 1192 25 [some (v_r 5), some (v_i m)] [] (1 + 4 * i) (8 + 148 * i) (7 + 4 * i) g f Q := by
  intro k
  induction k with
  | zero =>
    intro i m g f hk em hI
    have ei : i = 8 := by omega
    subst ei
    refine bw_iload_n dX1_init_25 rfl ?_
    refine bw_bipush dX1_init_26 (by decide) ?_
    refine bw_icmp_ge (tg := 50) dX1_init_28 (by decide) (by omega) (fun _ => ?_) (fun h => absurd h (by omega))
    refine bw_ret dX1_init_50 rfl rfl rfl ?_
    exact hQ g f hI
  | succ k ih =>
    intro i m g f hk em hI
    obtain ⟨i1, i2, i3, i4, i5, i6, i7, i8⟩ := hI
    have hr := sh_ring i (by omega)
    refine bw_iload_n dX1_init_25 rfl ?_
    refine bw_bipush dX1_init_26 (by decide) ?_
    refine bw_icmp_ge (tg := 50) dX1_init_28 (by decide) (by omega) (fun h => absurd h (by omega)) (fun _ => ?_)
    refine bw_aload_n dX1_init_31 rfl ?_
    refine bw_getR (r := 6) dX1_init_32 flX1_11 rfl (by omega) rfl i6 ?_
    refine bw_iload_n dX1_init_35 rfl ?_
    refine bw_new (ty := tyX4) dX1_init_36 hr.1 rfl clX1_9 istX4 iniX4 tyX4_ok (tyX4_d _ _ _) (i2 _ (by omega)) (i5 _ (by omega)) (by simp [sp_nr]; omega) (by simp [sp_nr]; omega) (by omega) (by omega) (by omega) ?_
    refine bw_dup dX1_init_39 rfl ?_
    refine bw_I (mc2 := 3) (ms2 := 144) dX1_init_40 okX4_init liX1_22 (by simp [sp_c1]) (by omega) (by simp [sp_lr]; omega) (by simp [sp_lr]; omega) (by omega) (by omega) ?_
    refine iX4 d hr.1 hr.2.1 hr.2.2.1 hr.2.2.2 (by omega) (fun p hp => i2 p (by omega)) (fun g2 e1 e2 e3 e4 e5 => ?_)
    subst em
    refine bw_aast (h := fun j => 7 + 4 * j) (i := (i : Int)) dX1_init_43 rfl (by omega) (by omega) (by decide) hr.1 (by simp; omega) ?_
    refine bw_iinc (L2 := [_, _]) dX1_init_44 rfl (by decide) rfl rfl ?_
    refine bw_goto (tg := 25) dX1_init_47 (by decide) ?_
    have K := ih (i + 1) (i + 1) g2 (sp_fs (sp_f3 f (7 + 4 * i)) 6 i) (by omega) (by omega) ⟨fun p hp j => ?_, fun p hp j => ?_, ⟨?_, ?_⟩, fun p hp k => ?_, fun p hp k => ?_, ?_, fun j hj => ?_, fun j hj => ?_⟩
    · exact K
    · rw [e1 p (by simp; omega)]; exact i1 p hp j
    · rw [e1 p (by simp; omega)]; exact i2 p (by omega) j
    · rw [e1 5 (by simp; omega)]; exact i3.1
    · rw [e1 5 (by simp; omega)]; exact i3.2
    · rw [fsN f (by omega) (by omega)]; exact i4 p hp k
    · rw [fsN f (by omega) (by omega)]; exact i5 p (by omega) k
    · rw [fsN f (by omega) (by omega)]; exact i6
    · by_cases c : j = i
      · rw [c, sp_fs_s]
      · rw [sp_fs_n _ (by omega), f3N f (by omega)]; exact i7 j (by omega)
    · by_cases c : j = i
      · subst c
        rw [sp_fs_o _ (by omega), sp_fs_o _ (by omega), sp_fs_o _ (by omega)]
        exact ⟨by simp [sp_f3, sp_fs], by simp [sp_f3, sp_fs], by simp [sp_f3, sp_fs]⟩
      · rw [fsN f (by omega) (by omega), fsN f (by omega) (by omega), fsN f (by omega) (by omega)]
        exact i8 j (by omega)
theorem iX1 (d : Nat) {g : sp_G} {f : sp_Fl} {Q : sp_BQ} (hg : ∀ p, 6 ≤ p → ∀ j, g p j = 0) (hf : ∀ p, 6 ≤ p → ∀ k, f p k = false) (hQ : ∀ (g2 : sp_G) (f2 : sp_Fl), rgI g g2 f f2 8 → Q 39 g2 f2) : sp_BMet (d + 2) 33 1192 mX1_init 5 6 g f Q := by
  refine sp_bof (L := [_, _]) (by decide) (by decide) rfl rfl ?_
  refine bw_aload_n dX1_init_0 rfl ?_
  refine bw_obj dX1_init_1 oiX1 oi_1 oi_2 (by decide) ?_
  refine bw_aload_n dX1_init_4 rfl ?_
  refine bw_bipush dX1_init_5 (by decide) ?_
  refine bw_newq (N := 8) dX1_init_7 rfl clX1_9 (by decide) (by decide) (by decide) (hf 6 (by decide)) rfl rfl (by decide) (by decide) (by decide) ?_
  refine bw_putR (r := 6) dX1_init_10 flX1_11 fF_1_0 rfl (by decide) rfl (by decide) ?_
  refine bw_aload_n dX1_init_13 rfl ?_
  refine bw_iconst dX1_init_14 ?_
  refine bw_putI (kz := 1) dX1_init_15 flX1_15 fi_1_1 rfl (by decide) rfl rfl ?_
  refine bw_aload_n dX1_init_18 rfl ?_
  refine bw_iconst dX1_init_19 ?_
  refine bw_putI (kz := 2) dX1_init_20 flX1_19 fi_1_2 rfl (by decide) rfl rfl ?_
  refine bw_iconst dX1_init_23 ?_
  refine bw_istore_n (L2 := [_, _]) dX1_init_24 (by decide) rfl rfl ?_
  refine lX1_i d (fun g2 f2 h2 => hQ g2 f2 h2) 8 0 _ _ _ (by omega) rfl ⟨fun p hp j => ?_, fun p hp j => ?_, ⟨?_, ?_⟩, fun p hp k => ?_, fun p hp k => ?_, ?_, fun j hj => absurd hj (by omega), fun j hj => absurd hj (by omega)⟩
  · rw [sp_up_o _ _ _ _ (by omega), sp_up_o _ _ _ _ (by omega)]
  · rw [sp_up_o _ _ _ _ (by omega), sp_up_o _ _ _ _ (by omega)]; exact hg p (by omega) j
  · rw [sp_up_i _ _ _ _ (by decide), sp_up_s]
  · rw [sp_up_s]
  · rw [sp_fs_o _ (by omega)]
  · rw [sp_fs_o _ (by omega)]; exact hf p (by omega) k
  · exact sp_fs_s _ _ _
