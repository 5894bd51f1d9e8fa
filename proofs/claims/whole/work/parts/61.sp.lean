theorem liX5_9 : Cond.methodLink RX5 9 yX4_init ∈ sp_T := sp_inT (List.mem_of_getElem? (i := 84) (by decide +kernel)) (by decide +kernel)
theorem liX5_18 : Cond.methodLink RX5 18 yX1_init ∈ sp_T := sp_inT (List.mem_of_getElem? (i := 107) (by decide +kernel)) (by decide +kernel)
theorem liX5_25 : Cond.methodLinkNest RX5 25 yX3_init "StylePapers" ∈ lw_tbl := List.mem_of_getElem? (i := 127) (by decide +kernel)
theorem liX5_32 : Cond.methodLinkNest RX5 32 yX0_init "StylePapers" ∈ lw_tbl := List.mem_of_getElem? (i := 156) (by decide +kernel)
theorem liX5_39 : Cond.methodLinkNest RX5 39 yX2_init "StylePapers" ∈ lw_tbl := List.mem_of_getElem? (i := 201) (by decide +kernel)
theorem tyX1_d : ∀ j : Nat, j < 3 → defaultValue (tyX1 j) = vp_V (([some 6, none, none] : List (Option Nat)).map (fun x => match x with | none => Value.int 0 | some _ => Value.null)) j
  | 0, _ => rfl
  | 1, _ => rfl
  | 2, _ => rfl
  | n + 3, h => absurd h (by omega)
theorem tyX3_d : ∀ j : Nat, j < 6 → defaultValue (tyX3 j) = vp_V (([some 40, some 41, some 42, some 43, some 44, none] : List (Option Nat)).map (fun x => match x with | none => Value.int 0 | some _ => Value.null)) j
  | 0, _ => rfl
  | 1, _ => rfl
  | 2, _ => rfl
  | 3, _ => rfl
  | 4, _ => rfl
  | 5, _ => rfl
  | n + 6, h => absurd h (by omega)
theorem tyX0_d : ∀ j : Nat, j < 10 → defaultValue (tyX0 j) = vp_V (([none, none, none, some 46, some 47, some 48, none, none, none, none] : List (Option Nat)).map (fun x => match x with | none => Value.int 0 | some _ => Value.null)) j
  | 0, _ => rfl
  | 1, _ => rfl
  | 2, _ => rfl
  | 3, _ => rfl
  | 4, _ => rfl
  | 5, _ => rfl
  | 6, _ => rfl
  | 7, _ => rfl
  | 8, _ => rfl
  | 9, _ => rfl
  | n + 10, h => absurd h (by omega)
theorem tyX2_d : ∀ j : Nat, j < 7 → defaultValue (tyX2 j) = vp_V (([some 50, none, some 51, none, none, none, none] : List (Option Nat)).map (fun x => match x with | none => Value.int 0 | some _ => Value.null)) j
  | 0, _ => rfl
  | 1, _ => rfl
  | 2, _ => rfl
  | 3, _ => rfl
  | 4, _ => rfl
  | 5, _ => rfl
  | 6, _ => rfl
  | n + 7, h => absurd h (by omega)
theorem iX5 (d : Nat) {g : sp_G} {f : sp_Fl} {Q : sp_BQ} (hg : ∀ p, ∀ j, g p j = 0) (hf : ∀ p, ∀ k, f p k = false)
    (hQ : ∀ (ga gb : sp_G) (fb : sp_Fl), sp_fr [1, 2, 4] g ga → ga 1 3 = 1 → rH ga 2 0 24 (fun _ => 1) → rH ga 4 0 24 (fun _ => 2) → rgI ga gb (sp_fs (sp_f3 f 1) 0 0) fb 8 → Q 52 (sp_up (sp_up (sp_up (sp_up (sp_up (sp_up (sp_up (sp_up (sp_up (sp_up (sp_up (sp_up (sp_up (sp_up (sp_up (sp_up (gb) 39 5 0) 45 0 2) 45 1 12) 45 2 0) 45 6 0) 45 7 0) 45 8 0) 45 9 0) 49 1 0) 49 3 0) 49 4 0) 49 5 0) 49 6 0) 0 5 0) 0 6 0) 0 7 0) (sp_fs (sp_fs (sp_fs (sp_fs (sp_fs (sp_fs (sp_fs (sp_fs (sp_fs (sp_fs (sp_fs (sp_fs (sp_fs (sp_fs (fb) 0 1) 39 0) 39 1) 39 2) 39 3) 39 4) 0 2) 45 3) 45 4) 45 5) 0 3) 49 0) 49 2) 0 4)) : sp_BMet (d + 3) 51 1776 mX5_init 0 1 g f Q := by
  refine sp_bof (L := [_]) (by decide) (by decide) rfl rfl ?_
  refine bw_aload_n dX5_init_0 rfl ?_
  refine bw_obj dX5_init_1 oiX5 oi_1 oi_2 (by decide) ?_
  refine bw_aload_n dX5_init_4 rfl ?_
  refine bw_new (ty := tyX4) dX5_init_5 rfl rfl clX5_7 istX4 iniX4 tyX4_ok (tyX4_d _ _ _) (hg 1) (hf 1) rfl rfl (by decide) (by decide) (by decide) ?_
  refine bw_dup dX5_init_8 rfl ?_
  refine bw_I (mc2 := 3) (ms2 := 144) dX5_init_9 okX4_init liX5_9 (by decide) (by decide) rfl rfl (by decide) (by decide) ?_
  refine iX4 (d + 1) rfl rfl rfl rfl (by decide) (fun p _ => hg p) (fun ga a1 a2 a3 a4 a5 => ?_)
  have za : ∀ p, 5 ≤ p → ∀ j, ga p j = 0 := fun p hp j => by rw [a1 p (by simp; omega)]; exact hg p j
  have wa : ∀ p, 2 ≤ p → ∀ k, sp_fs (sp_f3 f 1) 0 0 p k = false := fun p hp k => by rw [sp_fs_o _ (by omega), f3N f (by omega)]; exact hf p k
  refine bw_putR (r := 1) dX5_init_12 flX5_10 fF_5_0 rfl (by decide) rfl (by decide) ?_
  refine bw_aload_n dX5_init_15 rfl ?_
  refine bw_new (ty := tyX1) dX5_init_16 rfl rfl clX5_16 istX1 iniX1 tyX1_ok tyX1_d (za 5 (by decide)) (wa 5 (by decide)) rfl rfl (by decide) (by decide) (by decide) ?_
  refine bw_dup dX5_init_19 rfl ?_
  refine bw_I (mc2 := 33) (ms2 := 1192) dX5_init_20 okX1_init liX5_18 (by decide) (by decide) rfl rfl (by decide) (by decide) ?_
  refine iX1 d (fun p hp => za p (by omega)) (fun p hp => wa p (by omega)) (fun gb fb hI => ?_)
  have zb := hI.2.1
  have wb := hI.2.2.2.2.1
  refine bw_putR (r := 5) dX5_init_23 flX5_19 fF_5_1 rfl (by decide) rfl (by decide) ?_
  refine bw_aload_n dX5_init_26 rfl ?_
  refine bw_new (ty := tyX3) dX5_init_27 rfl rfl clX5_23 istX3 iniX3 tyX3_ok tyX3_d (zb 39 (by decide)) (fun k => by rw [sp_fs_o _ (by decide)]; exact wb 39 (by decide) k) rfl rfl (by decide) (by decide) (by decide) ?_
  refine bw_dup dX5_init_30 rfl ?_
  refine bw_IN (mc2 := 5) (ms2 := 120) dX5_init_31 okX3_init liX5_25 (by decide) (by decide) rfl rfl (by decide) (by decide) ?_
  refine iX3 (d + 1) (fun p hp => zb p (by omega)) ?_
  refine bw_putR (r := 39) dX5_init_34 flX5_26 fF_5_2 rfl (by decide) rfl (by decide) ?_
  refine bw_aload_n dX5_init_37 rfl ?_
  refine bw_new (ty := tyX0) dX5_init_38 rfl rfl clX5_30 istX0 iniX0 tyX0_ok tyX0_d (fun k => (sp_up_o _ _ _ _ (by decide)).trans (zb 45 (by decide) k)) (fun k => by simp [sp_fs]; exact wb 45 (by decide) k) rfl rfl (by decide) (by decide) (by decide) ?_
  refine bw_dup dX5_init_41 rfl ?_
  refine bw_IN (mc2 := 3) (ms2 := 20) dX5_init_42 okX0_init liX5_32 (by decide) (by decide) rfl rfl (by decide) (by decide) ?_
  refine iX0 (d + 1) (fun p hp j => (sp_up_o _ _ _ _ (by omega)).trans (zb p (by omega) j)) ?_
  refine bw_putR (r := 45) dX5_init_45 flX5_33 fF_5_3 rfl (by decide) rfl (by decide) ?_
  refine bw_aload_n dX5_init_48 rfl ?_
  have zc : ∀ p, 49 ≤ p → ∀ j, (sp_up (sp_up (sp_up (sp_up (sp_up (sp_up (sp_up (sp_up (gb) 39 5 0) 45 0 2) 45 1 12) 45 2 0) 45 6 0) 45 7 0) 45 8 0) 45 9 0) p j = 0 := fun p hp j => by
    rw [sp_up_o _ _ _ _ (by omega), sp_up_o _ _ _ _ (by omega), sp_up_o _ _ _ _ (by omega), sp_up_o _ _ _ _ (by omega), sp_up_o _ _ _ _ (by omega), sp_up_o _ _ _ _ (by omega), sp_up_o _ _ _ _ (by omega), sp_up_o _ _ _ _ (by omega)]
    exact zb p (by omega) j
  refine bw_new (ty := tyX2) dX5_init_49 rfl rfl clX5_37 istX2 iniX2 tyX2_ok tyX2_d (zc 49 (by decide)) (fun k => by simp [sp_fs]; exact wb 49 (by decide) k) rfl rfl (by decide) (by decide) (by decide) ?_
  refine bw_dup dX5_init_52 rfl ?_
  refine bw_IN (mc2 := 2) (ms2 := 270) dX5_init_53 okX2_init liX5_39 (by decide) (by decide) rfl rfl (by decide) (by decide) ?_
  refine iX2 (d + 1) (fun p hp => zc p (by omega)) ?_
  refine bw_putR (r := 49) dX5_init_56 flX5_40 fF_5_4 rfl (by decide) rfl (by decide) ?_
  refine bw_aload_n dX5_init_59 rfl ?_
  refine bw_iconst dX5_init_60 ?_
  refine bw_putI (kz := 5) dX5_init_61 flX5_44 fi_5_5 rfl (by decide) rfl rfl ?_
  refine bw_aload_n dX5_init_64 rfl ?_
  refine bw_iconst dX5_init_65 ?_
  refine bw_putI (kz := 6) dX5_init_66 flX5_48 fi_5_6 rfl (by decide) rfl rfl ?_
  refine bw_aload_n dX5_init_69 rfl ?_
  refine bw_iconst dX5_init_70 ?_
  refine bw_putI (kz := 7) dX5_init_71 flX5_51 fi_5_7 rfl (by decide) rfl rfl ?_
  refine bw_ret dX5_init_74 rfl rfl rfl ?_
  exact hQ ga gb fb a1 a3 a4 a5 hI
