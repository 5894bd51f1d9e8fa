theorem tX5_within (d : Nat) {v lo hi : Int} {g : sp_G} {Q : sp_P} (hr : ((-2147483648 ≤ v ∧ v < 2147483648)) ∧ ((-2147483648 ≤ lo ∧ lo < 2147483648)) ∧ ((-2147483648 ≤ hi ∧ hi < 2147483648))) (hQ : Q (some (v_i (sp_bl (lo ≤ v ∧ v ≤ hi)))) g) : sp_Met d mX5_within [v_i v, v_i lo, v_i hi] g Q := by
  refine sp_of (L := [_, _, _]) (by decide) (Nat.le_of_ble_eq_true rfl) rfl rfl ?_
  refine aw_iload_n dX5_within_0 rfl ?_
  refine aw_iload_n dX5_within_1 rfl ?_
  refine aw_icmp_lt (tg := 14) dX5_within_2 (by decide) (by omega) (fun h2 => ?_) (fun h2 => ?_)
  · refine aw_iconst dX5_within_14 ?_
    refine aw_zret dX5_within_15 rfl (by decide) ?_
    first | exact p_ie (P := fun z => Q (some (v_i z)) _) hQ (by omega) | exact p_it (P := fun z => Q (some (v_i z)) _) hQ (by omega)
  · refine aw_iload_n dX5_within_5 rfl ?_
    refine aw_iload_n dX5_within_6 rfl ?_
    refine aw_icmp_gt (tg := 14) dX5_within_7 (by decide) (by omega) (fun h7 => ?_) (fun h7 => ?_)
    · refine aw_iconst dX5_within_14 ?_
      refine aw_zret dX5_within_15 rfl (by decide) ?_
      first | exact p_ie (P := fun z => Q (some (v_i z)) _) hQ (by omega) | exact p_it (P := fun z => Q (some (v_i z)) _) hQ (by omega)
    · refine aw_iconst dX5_within_10 ?_
      refine aw_goto (tg := 15) dX5_within_11 (by decide) ?_
      refine aw_zret dX5_within_15 rfl (by decide) ?_
      first | exact p_ie (P := fun z => Q (some (v_i z)) _) hQ (by omega) | exact p_it (P := fun z => Q (some (v_i z)) _) hQ (by omega)
theorem tX5_isLayer (d : Nat) {l : Int} {g : sp_G} {Q : sp_P} (hr : (-2147483648 ≤ l ∧ l < 2147483648)) (hQ : Q (some (v_i (sp_bl (0 ≤ l ∧ l ≤ 3)))) g) : sp_Met (d + 1) mX5_isLayer [v_i l] g Q := by
  refine sp_of (L := [_]) (by decide) (Nat.le_of_ble_eq_true rfl) rfl rfl ?_
  refine aw_iload_n dX5_isLayer_0 rfl ?_
  refine aw_iconst dX5_isLayer_1 ?_
  refine aw_iconst dX5_isLayer_2 ?_
  refine aw_S3 dX5_isLayer_3 okX5_within lkX5_58 rfl ?_
  refine tX5_within d (by omega) ?_
  refine aw_zret dX5_isLayer_6 rfl (p_bl _) ?_
  exact hQ
theorem tX5_isDistrict (d : Nat) {l : Int} {g : sp_G} {Q : sp_P} (hr : (-2147483648 ≤ l ∧ l < 2147483648)) (hQ : Q (some (v_i (sp_bl (0 ≤ l ∧ l ≤ 5)))) g) : sp_Met (d + 1) mX5_isDistrict [v_i l] g Q := by
  refine sp_of (L := [_]) (by decide) (Nat.le_of_ble_eq_true rfl) rfl rfl ?_
  refine aw_iload_n dX5_isDistrict_0 rfl ?_
  refine aw_iconst dX5_isDistrict_1 ?_
  refine aw_iconst dX5_isDistrict_2 ?_
  refine aw_S3 dX5_isDistrict_3 okX5_within lkX5_58 rfl ?_
  refine tX5_within d (by omega) ?_
  refine aw_zret dX5_isDistrict_6 rfl (p_bl _) ?_
  exact hQ
theorem tX5_isBlock (d : Nat) {l : Int} {g : sp_G} {Q : sp_P} (hr : (-2147483648 ≤ l ∧ l < 2147483648)) (hQ : Q (some (v_i (sp_bl (0 ≤ l ∧ l ≤ 23)))) g) : sp_Met (d + 1) mX5_isBlock [v_i l] g Q := by
  refine sp_of (L := [_]) (by decide) (Nat.le_of_ble_eq_true rfl) rfl rfl ?_
  refine aw_iload_n dX5_isBlock_0 rfl ?_
  refine aw_iconst dX5_isBlock_1 ?_
  refine aw_bipush dX5_isBlock_2 (by decide) ?_
  refine aw_S3 dX5_isBlock_4 okX5_within lkX5_58 rfl ?_
  refine tX5_within d (by omega) ?_
  refine aw_zret dX5_isBlock_7 rfl (p_bl _) ?_
  exact hQ
theorem tX5_isName (d : Nat) {l : Int} {g : sp_G} {Q : sp_P} (hr : (-2147483648 ≤ l ∧ l < 2147483648)) (hQ : Q (some (v_i (sp_bl (0 ≤ l ∧ l ≤ 7)))) g) : sp_Met (d + 1) mX5_isName [v_i l] g Q := by
  refine sp_of (L := [_]) (by decide) (Nat.le_of_ble_eq_true rfl) rfl rfl ?_
  refine aw_iload_n dX5_isName_0 rfl ?_
  refine aw_iconst dX5_isName_1 ?_
  refine aw_bipush dX5_isName_2 (by decide) ?_
  refine aw_S3 dX5_isName_4 okX5_within lkX5_58 rfl ?_
  refine tX5_within d (by omega) ?_
  refine aw_zret dX5_isName_7 rfl (p_bl _) ?_
  exact hQ
theorem tX5_isRectangle (d : Nat) {a b : Int} {g : sp_G} {Q : sp_P} (hr : ((-2147483648 ≤ a ∧ a < 2147483648)) ∧ ((-2147483648 ≤ b ∧ b < 2147483648))) (hQ : Q (some (v_i (sp_bl ((0 ≤ a ∧ a ≤ 23) ∧ (0 ≤ b ∧ b ≤ 23) ∧ a / 4 ≤ b / 4 ∧ a % 4 ≤ b % 4)))) g) : sp_Met (d + 2) mX5_isRectangle [v_i a, v_i b] g Q := by
  refine sp_of (L := [_, _]) (by decide) (Nat.le_of_ble_eq_true rfl) rfl rfl ?_
  refine aw_iload_n dX5_isRectangle_0 rfl ?_
  refine aw_S1 dX5_isRectangle_1 okX5_isBlock lkX5_89 rfl ?_
  refine tX5_isBlock d (by omega) ?_
  refine aw_ifeq_b (tg := 36) dX5_isRectangle_4 (by decide) (fun h4 => ?_) (fun h4 => ?_)
  · refine aw_iconst dX5_isRectangle_36 ?_
    refine aw_zret dX5_isRectangle_37 rfl (by decide) ?_
    first | exact p_ie (P := fun z => Q (some (v_i z)) _) hQ (by omega) | exact p_it (P := fun z => Q (some (v_i z)) _) hQ (by omega)
  · refine aw_iload_n dX5_isRectangle_7 rfl ?_
    refine aw_S1 dX5_isRectangle_8 okX5_isBlock lkX5_89 rfl ?_
    refine tX5_isBlock d (by omega) ?_
    refine aw_ifeq_b (tg := 36) dX5_isRectangle_11 (by decide) (fun h11 => ?_) (fun h11 => ?_)
    · refine aw_iconst dX5_isRectangle_36 ?_
      refine aw_zret dX5_isRectangle_37 rfl (by decide) ?_
      first | exact p_ie (P := fun z => Q (some (v_i z)) _) hQ (by omega) | exact p_it (P := fun z => Q (some (v_i z)) _) hQ (by omega)
    · refine aw_iload_n dX5_isRectangle_14 rfl ?_
      refine aw_iconst dX5_isRectangle_15 ?_
      refine aw_idiv dX5_isRectangle_16 (by omega) ?_
      refine aw_iload_n dX5_isRectangle_17 rfl ?_
      refine aw_iconst dX5_isRectangle_18 ?_
      refine aw_idiv dX5_isRectangle_19 (by omega) ?_
      refine aw_icmp_gt (tg := 36) dX5_isRectangle_20 (by decide) (by omega) (fun h20 => ?_) (fun h20 => ?_)
      · refine aw_iconst dX5_isRectangle_36 ?_
        refine aw_zret dX5_isRectangle_37 rfl (by decide) ?_
        first | exact p_ie (P := fun z => Q (some (v_i z)) _) hQ (by omega) | exact p_it (P := fun z => Q (some (v_i z)) _) hQ (by omega)
      · refine aw_iload_n dX5_isRectangle_23 rfl ?_
        refine aw_iconst dX5_isRectangle_24 ?_
        refine aw_irem dX5_isRectangle_25 (by omega) ?_
        refine aw_iload_n dX5_isRectangle_26 rfl ?_
        refine aw_iconst dX5_isRectangle_27 ?_
        refine aw_irem dX5_isRectangle_28 (by omega) ?_
        refine aw_icmp_gt (tg := 36) dX5_isRectangle_29 (by decide) (by omega) (fun h29 => ?_) (fun h29 => ?_)
        · refine aw_iconst dX5_isRectangle_36 ?_
          refine aw_zret dX5_isRectangle_37 rfl (by decide) ?_
          first | exact p_ie (P := fun z => Q (some (v_i z)) _) hQ (by omega) | exact p_it (P := fun z => Q (some (v_i z)) _) hQ (by omega)
        · refine aw_iconst dX5_isRectangle_32 ?_
          refine aw_goto (tg := 37) dX5_isRectangle_33 (by decide) ?_
          refine aw_zret dX5_isRectangle_37 rfl (by decide) ?_
          first | exact p_ie (P := fun z => Q (some (v_i z)) _) hQ (by omega) | exact p_it (P := fun z => Q (some (v_i z)) _) hQ (by omega)
theorem tX4_isOn (d : Nat) {l : Int} {g : sp_G} {Q : sp_P} (hb : bt (g 1 3) l = 0 ∨ bt (g 1 3) l = 1) (hQ : Q (some (v_i (sp_bl (bt (g 1 3) l = 1)))) g) : sp_Met d mX4_isOn [v_r 1, v_i l] g Q := by
  refine sp_of (L := [_, _]) (by decide) (Nat.le_of_ble_eq_true rfl) rfl rfl ?_
  refine aw_aload_n dX4_isOn_0 rfl ?_
  refine aw_getI (kz := 3) dX4_isOn_1 flX4_21 rfl rfl rfl ?_
  refine aw_iload_n dX4_isOn_4 rfl ?_
  refine aw_ishr dX4_isOn_5 ?_
  refine aw_iconst dX4_isOn_6 ?_
  refine aw_iand dX4_isOn_7 ?_
  refine aw_iconst dX4_isOn_8 ?_
  refine aw_icmp_ne (tg := 16) dX4_isOn_9 (by decide) (by unfold bt at hb; omega) (fun h9 => ?_) (fun h9 => ?_)
  · refine aw_iconst dX4_isOn_16 ?_
    refine aw_zret dX4_isOn_17 rfl (by decide) ?_
    unfold bt at hQ hb
    first | exact p_ie (P := fun z => Q (some (v_i z)) _) hQ (by omega) | exact p_it (P := fun z => Q (some (v_i z)) _) hQ (by omega)
  · refine aw_iconst dX4_isOn_12 ?_
    refine aw_goto (tg := 17) dX4_isOn_13 (by decide) ?_
    refine aw_zret dX4_isOn_17 rfl (by decide) ?_
    unfold bt at hQ hb
    first | exact p_ie (P := fun z => Q (some (v_i z)) _) hQ (by omega) | exact p_it (P := fun z => Q (some (v_i z)) _) hQ (by omega)
theorem tX4_districtOf (d : Nat) {t : Nat} {l a : Int} {g : sp_G} {Q : sp_P} (hT : sp_isT t) (h : 0 ≤ l * 24 + a ∧ l * 24 + a < 96) (hQ : Q (some (v_i (g (t + 2) (l * 24 + a)))) g) : sp_Met d mX4_districtOf [v_r t, v_i l, v_i a] g Q := by
  refine sp_of (L := [_, _, _]) (by decide) (Nat.le_of_ble_eq_true rfl) rfl rfl ?_
  refine aw_aload_n dX4_districtOf_0 rfl ?_
  refine aw_getR dX4_districtOf_1 flX4_15 hT.1 rfl ?_
  refine aw_iload_n dX4_districtOf_4 rfl ?_
  refine aw_bipush dX4_districtOf_5 (by decide) ?_
  refine aw_imul dX4_districtOf_7 ?_
  refine aw_iload_n dX4_districtOf_8 rfl ?_
  refine aw_iadd dX4_districtOf_9 ?_
  refine aw_iald dX4_districtOf_10 hT.2.2.1 (by omega) ?_
  refine aw_iret dX4_districtOf_11 rfl ?_
  exact hQ
theorem tX4_namesOf (d : Nat) {l e : Int} {g : sp_G} {Q : sp_P} (h : 0 ≤ l * 6 + e ∧ l * 6 + e < 24) (hQ : Q (some (v_i (g 4 (l * 6 + e)))) g) : sp_Met d mX4_namesOf [v_r 1, v_i l, v_i e] g Q := by
  refine sp_of (L := [_, _, _]) (by decide) (Nat.le_of_ble_eq_true rfl) rfl rfl ?_
  refine aw_aload_n dX4_namesOf_0 rfl ?_
  refine aw_getR dX4_namesOf_1 flX4_18 rfl rfl ?_
  refine aw_iload_n dX4_namesOf_4 rfl ?_
  refine aw_bipush dX4_namesOf_5 (by decide) ?_
  refine aw_imul dX4_namesOf_7 ?_
  refine aw_iload_n dX4_namesOf_8 rfl ?_
  refine aw_iadd dX4_namesOf_9 ?_
  refine aw_iald dX4_namesOf_10 rfl (by omega) ?_
  refine aw_iret dX4_namesOf_11 rfl ?_
  exact hQ
theorem tX4_heightAt (d : Nat) {l a : Int} {g : sp_G} {Q : sp_P} (h : 0 ≤ l * 24 + a ∧ l * 24 + a < 96) (h2 : 0 ≤ l * 6 + g 3 (l * 24 + a) ∧ l * 6 + g 3 (l * 24 + a) < 24) (hQ : Q (some (v_i (2 + g 4 (l * 6 + g 3 (l * 24 + a))))) g) : sp_Met (d + 1) mX4_heightAt [v_r 1, v_i l, v_i a] g Q := by
  refine sp_of (L := [_, _, _]) (by decide) (Nat.le_of_ble_eq_true rfl) rfl rfl ?_
  refine aw_iconst dX4_heightAt_0 ?_
  refine aw_aload_n dX4_heightAt_1 rfl ?_
  refine aw_iload_n dX4_heightAt_2 rfl ?_
  refine aw_aload_n dX4_heightAt_3 rfl ?_
  refine aw_iload_n dX4_heightAt_4 rfl ?_
  refine aw_iload_n dX4_heightAt_5 rfl ?_
  refine aw_V2 dX4_heightAt_6 okX4_districtOf lkX4_31 rfl rfl rfl ?_
  refine tX4_districtOf d sp_isT_1 (by omega) ?_
  refine aw_V2 dX4_heightAt_9 okX4_namesOf lkX4_35 rfl rfl rfl ?_
  refine tX4_namesOf d h2 ?_
  refine aw_iadd dX4_heightAt_12 ?_
  refine aw_iret dX4_heightAt_13 rfl ?_
  exact hQ
theorem tX4_switchLayer (d : Nat) {l to : Int} {g : sp_G} {Q : sp_P} (hb : bt (g 1 3) l = 0 ∨ bt (g 1 3) l = 1) (ht : 0 ≤ to ∧ to ≤ 1) (hQ : Q (some (v_i (if bt (g 1 3) l = to then 0 else 1))) (sp_up g 1 3 (sw (g 1 3) l to))) : sp_Met d mX4_switchLayer [v_r 1, v_i l, v_i to] g Q := by
  refine sp_of (L := [_, _, _, _]) (by decide) (Nat.le_of_ble_eq_true rfl) rfl rfl ?_
  refine aw_aload_n dX4_switchLayer_0 rfl ?_
  refine aw_getI (kz := 3) dX4_switchLayer_1 flX4_21 rfl rfl rfl ?_
  refine aw_iload_n dX4_switchLayer_4 rfl ?_
  refine aw_ishr dX4_switchLayer_5 ?_
  refine aw_iconst dX4_switchLayer_6 ?_
  refine aw_iand dX4_switchLayer_7 ?_
  refine aw_istore_n (L2 := [_, _, _, _]) dX4_switchLayer_8 (by decide) rfl rfl ?_
  refine aw_aload_n dX4_switchLayer_9 rfl ?_
  refine aw_iload_n dX4_switchLayer_10 rfl ?_
  refine aw_iconst dX4_switchLayer_11 ?_
  refine aw_icmp_ne (tg := 26) dX4_switchLayer_12 (by decide) (by omega) (fun h12 => ?_) (fun h12 => ?_)
  · refine aw_aload_n dX4_switchLayer_26 rfl ?_
    refine aw_getI (kz := 3) dX4_switchLayer_27 flX4_21 rfl rfl rfl ?_
    refine aw_iconst dX4_switchLayer_30 ?_
    refine aw_iload_n dX4_switchLayer_31 rfl ?_
    refine aw_ishl dX4_switchLayer_32 ?_
    refine aw_iconst dX4_switchLayer_33 ?_
    refine aw_ixor dX4_switchLayer_34 ?_
    refine aw_iand dX4_switchLayer_35 ?_
    refine aw_putI (kz := 3) dX4_switchLayer_36 flX4_21 fi_4_3 rfl rfl rfl  ?_
    refine aw_iload_n dX4_switchLayer_39 rfl ?_
    refine aw_iload_n dX4_switchLayer_40 rfl ?_
    refine aw_icmp_ne (tg := 48) dX4_switchLayer_41 (by decide) (by unfold bt at hb; omega) (fun h41 => ?_) (fun h41 => ?_)
    · refine aw_iconst dX4_switchLayer_48 ?_
      refine aw_iret dX4_switchLayer_49 rfl ?_
      first | (subst h12; simpa [sw, bt, h41] using hQ) | simpa [sw, bt, h12, h41] using hQ
    · refine aw_iconst dX4_switchLayer_44 ?_
      refine aw_goto (tg := 49) dX4_switchLayer_45 (by decide) ?_
      refine aw_iret dX4_switchLayer_49 rfl ?_
      first | (subst h12; simpa [sw, bt, h41] using hQ) | simpa [sw, bt, h12, h41] using hQ
  · refine aw_aload_n dX4_switchLayer_15 rfl ?_
    refine aw_getI (kz := 3) dX4_switchLayer_16 flX4_21 rfl rfl rfl ?_
    refine aw_iconst dX4_switchLayer_19 ?_
    refine aw_iload_n dX4_switchLayer_20 rfl ?_
    refine aw_ishl dX4_switchLayer_21 ?_
    refine aw_ior dX4_switchLayer_22 ?_
    refine aw_goto (tg := 36) dX4_switchLayer_23 (by decide) ?_
    refine aw_putI (kz := 3) dX4_switchLayer_36 flX4_21 fi_4_3 rfl rfl rfl  ?_
    refine aw_iload_n dX4_switchLayer_39 rfl ?_
    refine aw_iload_n dX4_switchLayer_40 rfl ?_
    refine aw_icmp_ne (tg := 48) dX4_switchLayer_41 (by decide) (by unfold bt at hb; omega) (fun h41 => ?_) (fun h41 => ?_)
    · refine aw_iconst dX4_switchLayer_48 ?_
      refine aw_iret dX4_switchLayer_49 rfl ?_
      first | (subst h12; simpa [sw, bt, h41] using hQ) | simpa [sw, bt, h12, h41] using hQ
    · refine aw_iconst dX4_switchLayer_44 ?_
      refine aw_goto (tg := 49) dX4_switchLayer_45 (by decide) ?_
      refine aw_iret dX4_switchLayer_49 rfl ?_
      first | (subst h12; simpa [sw, bt, h41] using hQ) | simpa [sw, bt, h12, h41] using hQ
theorem tX4_setNames (d : Nat) {l e n : Int} {g : sp_G} {Q : sp_P} (h : 0 ≤ l * 6 + e ∧ l * 6 + e < 24) (hQ : Q (some (v_i (g 4 (l * 6 + e)))) (sp_up g 4 (l * 6 + e) n)) : sp_Met d mX4_setNames [v_r 1, v_i l, v_i e, v_i n] g Q := by
  refine sp_of (L := [_, _, _, _, _]) (by decide) (Nat.le_of_ble_eq_true rfl) rfl rfl ?_
  refine aw_aload_n dX4_setNames_0 rfl ?_
  refine aw_getR dX4_setNames_1 flX4_18 rfl rfl ?_
  refine aw_iload_n dX4_setNames_4 rfl ?_
  refine aw_bipush dX4_setNames_5 (by decide) ?_
  refine aw_imul dX4_setNames_7 ?_
  refine aw_iload_n dX4_setNames_8 rfl ?_
  refine aw_iadd dX4_setNames_9 ?_
  refine aw_iald dX4_setNames_10 rfl (by omega) ?_
  refine aw_istore (L2 := [_, _, _, _, _]) dX4_setNames_11 (by decide) rfl rfl ?_
  refine aw_aload_n dX4_setNames_13 rfl ?_
  refine aw_getR dX4_setNames_14 flX4_18 rfl rfl ?_
  refine aw_iload_n dX4_setNames_17 rfl ?_
  refine aw_bipush dX4_setNames_18 (by decide) ?_
  refine aw_imul dX4_setNames_20 ?_
  refine aw_iload_n dX4_setNames_21 rfl ?_
  refine aw_iadd dX4_setNames_22 ?_
  refine aw_iload_n dX4_setNames_23 rfl ?_
  refine aw_iast dX4_setNames_24 rfl (by omega) ?_
  refine aw_iload dX4_setNames_25 rfl ?_
  refine aw_iret dX4_setNames_27 rfl ?_
  exact hQ
theorem tX4_setVoters (d : Nat) {a n : Int} {g : sp_G} {Q : sp_P} (h : 0 ≤ a ∧ a < 24) (hQ : Q (some (v_i (g 2 a))) (sp_up g 2 a n)) : sp_Met d mX4_setVoters [v_r 1, v_i a, v_i n] g Q := by
  refine sp_of (L := [_, _, _, _]) (by decide) (Nat.le_of_ble_eq_true rfl) rfl rfl ?_
  refine aw_aload_n dX4_setVoters_0 rfl ?_
  refine aw_getR dX4_setVoters_1 flX4_9 rfl rfl ?_
  refine aw_iload_n dX4_setVoters_4 rfl ?_
  refine aw_iald dX4_setVoters_5 rfl (by omega) ?_
  refine aw_istore_n (L2 := [_, _, _, _]) dX4_setVoters_6 (by decide) rfl rfl ?_
  refine aw_aload_n dX4_setVoters_7 rfl ?_
  refine aw_getR dX4_setVoters_8 flX4_9 rfl rfl ?_
  refine aw_iload_n dX4_setVoters_11 rfl ?_
  refine aw_iload_n dX4_setVoters_12 rfl ?_
  refine aw_iast dX4_setVoters_13 rfl (by omega) ?_
  refine aw_iload_n dX4_setVoters_14 rfl ?_
  refine aw_iret dX4_setVoters_15 rfl ?_
  exact hQ
theorem tX4_setDistrict (d : Nat) {l a e : Int} {g : sp_G} {Q : sp_P} (h : 0 ≤ l * 24 + a ∧ l * 24 + a < 96) (hr : ((-2147483648 ≤ e ∧ e < 2147483648)) ∧ -2147483648 ≤ g 3 (l * 24 + a) ∧ g 3 (l * 24 + a) < 2147483648) (hQ : Q (some (v_i (if g 3 (l * 24 + a) = e then 0 else 1))) (sp_up g 3 (l * 24 + a) e)) : sp_Met d mX4_setDistrict [v_r 1, v_i l, v_i a, v_i e] g Q := by
  refine sp_of (L := [_, _, _, _, _]) (by decide) (Nat.le_of_ble_eq_true rfl) rfl rfl ?_
  refine aw_aload_n dX4_setDistrict_0 rfl ?_
  refine aw_getR dX4_setDistrict_1 flX4_15 rfl rfl ?_
  refine aw_iload_n dX4_setDistrict_4 rfl ?_
  refine aw_bipush dX4_setDistrict_5 (by decide) ?_
  refine aw_imul dX4_setDistrict_7 ?_
  refine aw_iload_n dX4_setDistrict_8 rfl ?_
  refine aw_iadd dX4_setDistrict_9 ?_
  refine aw_iald dX4_setDistrict_10 rfl (by omega) ?_
  refine aw_istore (L2 := [_, _, _, _, _]) dX4_setDistrict_11 (by decide) rfl rfl ?_
  refine aw_aload_n dX4_setDistrict_13 rfl ?_
  refine aw_getR dX4_setDistrict_14 flX4_15 rfl rfl ?_
  refine aw_iload_n dX4_setDistrict_17 rfl ?_
  refine aw_bipush dX4_setDistrict_18 (by decide) ?_
  refine aw_imul dX4_setDistrict_20 ?_
  refine aw_iload_n dX4_setDistrict_21 rfl ?_
  refine aw_iadd dX4_setDistrict_22 ?_
  refine aw_iload_n dX4_setDistrict_23 rfl ?_
  refine aw_iast dX4_setDistrict_24 rfl (by omega) ?_
  refine aw_iload dX4_setDistrict_25 rfl ?_
  refine aw_iload_n dX4_setDistrict_27 rfl ?_
  refine aw_icmp_ne (tg := 35) dX4_setDistrict_28 (by decide) (by omega) (fun h28 => ?_) (fun h28 => ?_)
  · refine aw_iconst dX4_setDistrict_35 ?_
    refine aw_iret dX4_setDistrict_36 rfl ?_
    first | exact p_ie (P := fun z => Q (some (v_i z)) _) hQ (by omega) | exact p_it (P := fun z => Q (some (v_i z)) _) hQ (by omega)
  · refine aw_iconst dX4_setDistrict_31 ?_
    refine aw_goto (tg := 36) dX4_setDistrict_32 (by decide) ?_
    refine aw_iret dX4_setDistrict_36 rfl ?_
    first | exact p_ie (P := fun z => Q (some (v_i z)) _) hQ (by omega) | exact p_it (P := fun z => Q (some (v_i z)) _) hQ (by omega)
theorem tX4_nextLeader (d : Nat) {l e n : Int} {g : sp_G} {Q : sp_P} (h : 0 ≤ l * 6 + e ∧ l * 6 + e < 24) (hr : (-2147483648 ≤ n + 1 ∧ n + 1 < 2147483648) ∧ -2147483648 ≤ g 4 (l * 6 + e) ∧ g 4 (l * 6 + e) < 2147483648) (hQ : Q (some (v_i (if n + 1 < g 4 (l * 6 + e) then n + 1 else 0))) g) : sp_Met (d + 1) mX4_nextLeader [v_r 1, v_i l, v_i e, v_i n] g Q := by
  refine sp_of (L := [_, _, _, _]) (by decide) (Nat.le_of_ble_eq_true rfl) rfl rfl ?_
  refine aw_iload_n dX4_nextLeader_0 rfl ?_
  refine aw_iconst dX4_nextLeader_1 ?_
  refine aw_iadd dX4_nextLeader_2 ?_
  refine aw_aload_n dX4_nextLeader_3 rfl ?_
  refine aw_iload_n dX4_nextLeader_4 rfl ?_
  refine aw_iload_n dX4_nextLeader_5 rfl ?_
  refine aw_V2 dX4_nextLeader_6 okX4_namesOf lkX4_35 rfl rfl rfl ?_
  refine tX4_namesOf d h ?_
  refine aw_icmp_ge (tg := 18) dX4_nextLeader_9 (by decide) (by omega) (fun h9 => ?_) (fun h9 => ?_)
  · refine aw_iconst dX4_nextLeader_18 ?_
    refine aw_iret dX4_nextLeader_19 rfl ?_
    first | exact p_ie (P := fun z => Q (some (v_i z)) _) hQ (by omega) | exact p_it (P := fun z => Q (some (v_i z)) _) hQ (by omega)
  · refine aw_iload_n dX4_nextLeader_12 rfl ?_
    refine aw_iconst dX4_nextLeader_13 ?_
    refine aw_iadd dX4_nextLeader_14 ?_
    refine aw_goto (tg := 19) dX4_nextLeader_15 (by decide) ?_
    refine aw_iret dX4_nextLeader_19 rfl ?_
    first | exact p_ie (P := fun z => Q (some (v_i z)) _) hQ (by omega) | exact p_it (P := fun z => Q (some (v_i z)) _) hQ (by omega)
