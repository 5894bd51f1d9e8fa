theorem iX3 (d : Nat) {g : sp_G} {f : sp_Fl} {Q : sp_BQ} (hg : ∀ p, 40 ≤ p → ∀ j, g p j = 0) (hQ : Q 45 (sp_up (g) 39 5 0) (sp_fs (sp_fs (sp_fs (sp_fs (sp_fs (f) 39 0) 39 1) 39 2) 39 3) 39 4)) : sp_BMet (d + 1) 5 120 mX3_init 39 40 g f Q := by
  refine sp_bof (L := [_]) (by decide) (by decide) rfl rfl ?_
  refine bw_aload_n dX3_init_0 rfl ?_
  refine bw_obj dX3_init_1 oiX3 oi_1 oi_2 (by decide) ?_
  refine bw_aload_n dX3_init_4 rfl ?_
  refine bw_bipush dX3_init_5 (by decide) ?_
  have hg40 : ∀ k, (g) 40 k = 0 := fun k => by
    first
    | exact hg _ (by decide) k
    | (repeat rw [sp_up_o _ _ _ _ (by decide)]
       exact hg _ (by decide) k)
  refine bw_newa (N := 24) (ty := .int) dX3_init_7 rfl rfl rfl (fun _ _ h => h) (fun _ => rfl) ac_int (by decide) (by decide) (by decide) hg40 rfl rfl (by decide) (by decide) (by decide) ?_
  refine bw_putR (r := 40) dX3_init_9 flX3_9 fF_3_0 rfl (by decide) rfl (by decide) ?_
  refine bw_aload_n dX3_init_12 rfl ?_
  refine bw_bipush dX3_init_13 (by decide) ?_
  have hg41 : ∀ k, (g) 41 k = 0 := fun k => by
    first
    | exact hg _ (by decide) k
    | (repeat rw [sp_up_o _ _ _ _ (by decide)]
       exact hg _ (by decide) k)
  refine bw_newa (N := 24) (ty := .int) dX3_init_15 rfl rfl rfl (fun _ _ h => h) (fun _ => rfl) ac_int (by decide) (by decide) (by decide) hg41 rfl rfl (by decide) (by decide) (by decide) ?_
  refine bw_putR (r := 41) dX3_init_17 flX3_15 fF_3_1 rfl (by decide) rfl (by decide) ?_
  refine bw_aload_n dX3_init_20 rfl ?_
  refine bw_bipush dX3_init_21 (by decide) ?_
  have hg42 : ∀ k, (g) 42 k = 0 := fun k => by
    first
    | exact hg _ (by decide) k
    | (repeat rw [sp_up_o _ _ _ _ (by decide)]
       exact hg _ (by decide) k)
  refine bw_newa (N := 24) (ty := .int) dX3_init_23 rfl rfl rfl (fun _ _ h => h) (fun _ => rfl) ac_int (by decide) (by decide) (by decide) hg42 rfl rfl (by decide) (by decide) (by decide) ?_
  refine bw_putR (r := 42) dX3_init_25 flX3_18 fF_3_2 rfl (by decide) rfl (by decide) ?_
  refine bw_aload_n dX3_init_28 rfl ?_
  refine bw_bipush dX3_init_29 (by decide) ?_
  have hg43 : ∀ k, (g) 43 k = 0 := fun k => by
    first
    | exact hg _ (by decide) k
    | (repeat rw [sp_up_o _ _ _ _ (by decide)]
       exact hg _ (by decide) k)
  refine bw_newa (N := 24) (ty := .int) dX3_init_31 rfl rfl rfl (fun _ _ h => h) (fun _ => rfl) ac_int (by decide) (by decide) (by decide) hg43 rfl rfl (by decide) (by decide) (by decide) ?_
  refine bw_putR (r := 43) dX3_init_33 flX3_21 fF_3_3 rfl (by decide) rfl (by decide) ?_
  refine bw_aload_n dX3_init_36 rfl ?_
  refine bw_bipush dX3_init_37 (by decide) ?_
  have hg44 : ∀ k, (g) 44 k = 0 := fun k => by
    first
    | exact hg _ (by decide) k
    | (repeat rw [sp_up_o _ _ _ _ (by decide)]
       exact hg _ (by decide) k)
  refine bw_newa (N := 24) (ty := .boolean) dX3_init_39 rfl rfl rfl (fun _ _ h => h) (fun _ => rfl) ac_boolean (by decide) (by decide) (by decide) hg44 rfl rfl (by decide) (by decide) (by decide) ?_
  refine bw_putR (r := 44) dX3_init_41 flX3_24 fF_3_4 rfl (by decide) rfl (by decide) ?_
  refine bw_aload_n dX3_init_44 rfl ?_
  refine bw_iconst dX3_init_45 ?_
  refine bw_putI (kz := 5) dX3_init_46 flX3_28 fi_3_5 rfl (by decide) rfl rfl ?_
  refine bw_ret dX3_init_49 rfl rfl rfl ?_
  exact hQ
theorem iX0 (d : Nat) {g : sp_G} {f : sp_Fl} {Q : sp_BQ} (hg : ∀ p, 46 ≤ p → ∀ j, g p j = 0) (hQ : Q 49 (sp_up (sp_up (sp_up (sp_up (sp_up (sp_up (sp_up (g) 45 0 2) 45 1 12) 45 2 0) 45 6 0) 45 7 0) 45 8 0) 45 9 0) (sp_fs (sp_fs (sp_fs (f) 45 3) 45 4) 45 5)) : sp_BMet (d + 1) 3 20 mX0_init 45 46 g f Q := by
  refine sp_bof (L := [_]) (by decide) (by decide) rfl rfl ?_
  refine bw_aload_n dX0_init_0 rfl ?_
  refine bw_obj dX0_init_1 oiX0 oi_1 oi_2 (by decide) ?_
  refine bw_aload_n dX0_init_4 rfl ?_
  refine bw_iconst dX0_init_5 ?_
  refine bw_putI (kz := 0) dX0_init_6 flX0_9 fi_0_0 rfl (by decide) rfl rfl ?_
  refine bw_aload_n dX0_init_9 rfl ?_
  refine bw_bipush dX0_init_10 (by decide) ?_
  refine bw_putI (kz := 1) dX0_init_12 flX0_15 fi_0_1 rfl (by decide) rfl rfl ?_
  refine bw_aload_n dX0_init_15 rfl ?_
  refine bw_iconst dX0_init_16 ?_
  refine bw_putI (kz := 2) dX0_init_17 flX0_18 fi_0_2 rfl (by decide) rfl rfl ?_
  refine bw_aload_n dX0_init_20 rfl ?_
  refine bw_bipush dX0_init_21 (by decide) ?_
  have hg46 : ∀ k, (sp_up (sp_up (sp_up (g) 45 0 2) 45 1 12) 45 2 0) 46 k = 0 := fun k => by
    first
    | exact hg _ (by decide) k
    | (repeat rw [sp_up_o _ _ _ _ (by decide)]
       exact hg _ (by decide) k)
  refine bw_newa (N := 12) (ty := .int) dX0_init_23 rfl rfl rfl (fun _ _ h => h) (fun _ => rfl) ac_int (by decide) (by decide) (by decide) hg46 rfl rfl (by decide) (by decide) (by decide) ?_
  refine bw_putR (r := 46) dX0_init_25 flX0_21 fF_0_3 rfl (by decide) rfl (by decide) ?_
  refine bw_aload_n dX0_init_28 rfl ?_
  refine bw_iconst dX0_init_29 ?_
  have hg47 : ∀ k, (sp_up (sp_up (sp_up (g) 45 0 2) 45 1 12) 45 2 0) 47 k = 0 := fun k => by
    first
    | exact hg _ (by decide) k
    | (repeat rw [sp_up_o _ _ _ _ (by decide)]
       exact hg _ (by decide) k)
  refine bw_newa (N := 4) (ty := .int) dX0_init_30 rfl rfl rfl (fun _ _ h => h) (fun _ => rfl) ac_int (by decide) (by decide) (by decide) hg47 rfl rfl (by decide) (by decide) (by decide) ?_
  refine bw_putR (r := 47) dX0_init_32 flX0_25 fF_0_4 rfl (by decide) rfl (by decide) ?_
  refine bw_aload_n dX0_init_35 rfl ?_
  refine bw_iconst dX0_init_36 ?_
  have hg48 : ∀ k, (sp_up (sp_up (sp_up (g) 45 0 2) 45 1 12) 45 2 0) 48 k = 0 := fun k => by
    first
    | exact hg _ (by decide) k
    | (repeat rw [sp_up_o _ _ _ _ (by decide)]
       exact hg _ (by decide) k)
  refine bw_newa (N := 4) (ty := .int) dX0_init_37 rfl rfl rfl (fun _ _ h => h) (fun _ => rfl) ac_int (by decide) (by decide) (by decide) hg48 rfl rfl (by decide) (by decide) (by decide) ?_
  refine bw_putR (r := 48) dX0_init_39 flX0_28 fF_0_5 rfl (by decide) rfl (by decide) ?_
  refine bw_aload_n dX0_init_42 rfl ?_
  refine bw_iconst dX0_init_43 ?_
  refine bw_putI (kz := 6) dX0_init_44 flX0_31 fi_0_6 rfl (by decide) rfl rfl ?_
  refine bw_aload_n dX0_init_47 rfl ?_
  refine bw_iconst dX0_init_48 ?_
  refine bw_putI (kz := 7) dX0_init_49 flX0_34 fi_0_7 rfl (by decide) rfl rfl ?_
  refine bw_aload_n dX0_init_52 rfl ?_
  refine bw_iconst dX0_init_53 ?_
  refine bw_putI (kz := 8) dX0_init_54 flX0_37 fi_0_8 rfl (by decide) rfl rfl ?_
  refine bw_aload_n dX0_init_57 rfl ?_
  refine bw_iconst dX0_init_58 ?_
  refine bw_putZ (kz := 9) dX0_init_59 flX0_40 fi_0_9 rfl (by decide) rfl rfl (Or.inl rfl) ?_
  refine bw_ret dX0_init_62 rfl rfl rfl ?_
  exact hQ
theorem iX2 (d : Nat) {g : sp_G} {f : sp_Fl} {Q : sp_BQ} (hg : ∀ p, 50 ≤ p → ∀ j, g p j = 0) (hQ : Q 52 (sp_up (sp_up (sp_up (sp_up (sp_up (g) 49 1 0) 49 3 0) 49 4 0) 49 5 0) 49 6 0) (sp_fs (sp_fs (f) 49 0) 49 2)) : sp_BMet (d + 1) 2 270 mX2_init 49 50 g f Q := by
  refine sp_bof (L := [_]) (by decide) (by decide) rfl rfl ?_
  refine bw_aload_n dX2_init_0 rfl ?_
  refine bw_obj dX2_init_1 oiX2 oi_1 oi_2 (by decide) ?_
  refine bw_aload_n dX2_init_4 rfl ?_
  refine bw_bipush dX2_init_5 (by decide) ?_
  have hg50 : ∀ k, (g) 50 k = 0 := fun k => by
    first
    | exact hg _ (by decide) k
    | (repeat rw [sp_up_o _ _ _ _ (by decide)]
       exact hg _ (by decide) k)
  refine bw_newa (N := 120) (ty := .byte) dX2_init_7 rfl rfl rfl (fun _ _ h => h) (fun _ => rfl) ac_byte (by decide) (by decide) (by decide) hg50 rfl rfl (by decide) (by decide) (by decide) ?_
  refine bw_putR (r := 50) dX2_init_9 flX2_11 fF_2_0 rfl (by decide) rfl (by decide) ?_
  refine bw_aload_n dX2_init_12 rfl ?_
  refine bw_iconst dX2_init_13 ?_
  refine bw_putI (kz := 1) dX2_init_14 flX2_15 fi_2_1 rfl (by decide) rfl rfl ?_
  refine bw_aload_n dX2_init_17 rfl ?_
  refine bw_sipush dX2_init_18 (by decide) ?_
  have hg51 : ∀ k, (sp_up (g) 49 1 0) 51 k = 0 := fun k => by
    first
    | exact hg _ (by decide) k
    | (repeat rw [sp_up_o _ _ _ _ (by decide)]
       exact hg _ (by decide) k)
  refine bw_newa (N := 150) (ty := .int) dX2_init_21 rfl rfl rfl (fun _ _ h => h) (fun _ => rfl) ac_int (by decide) (by decide) (by decide) hg51 rfl rfl (by decide) (by decide) (by decide) ?_
  refine bw_putR (r := 51) dX2_init_23 flX2_19 fF_2_2 rfl (by decide) rfl (by decide) ?_
  refine bw_aload_n dX2_init_26 rfl ?_
  refine bw_iconst dX2_init_27 ?_
  refine bw_putI (kz := 3) dX2_init_28 flX2_23 fi_2_3 rfl (by decide) rfl rfl ?_
  refine bw_aload_n dX2_init_31 rfl ?_
  refine bw_iconst dX2_init_32 ?_
  refine bw_putI (kz := 4) dX2_init_33 flX2_26 fi_2_4 rfl (by decide) rfl rfl ?_
  refine bw_aload_n dX2_init_36 rfl ?_
  refine bw_iconst dX2_init_37 ?_
  refine bw_putI (kz := 5) dX2_init_38 flX2_29 fi_2_5 rfl (by decide) rfl rfl ?_
  refine bw_aload_n dX2_init_41 rfl ?_
  refine bw_iconst dX2_init_42 ?_
  refine bw_putI (kz := 6) dX2_init_43 flX2_32 fi_2_6 rfl (by decide) rfl rfl ?_
  refine bw_ret dX2_init_46 rfl rfl rfl ?_
  exact hQ
