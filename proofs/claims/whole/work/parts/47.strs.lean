abbrev mJ0_length_8abf5 : sp_M := (yJ0_length_8abf5, cJ0_length_8abf5, 1, some .int)
theorem okJ0_length_8abf5 : sp_okV mJ0_length_8abf5 0 := ⟨sp_inT (List.mem_of_getElem? (i := 457) (by decide +kernel)) (by decide +kernel), sp_inT (List.mem_of_getElem? (i := 69) (by decide +kernel)) (by decide +kernel), ⟨sp_inT (List.mem_of_getElem? (i := 455) (by decide +kernel)) (by decide +kernel), sp_inT (List.mem_of_getElem? (i := 456) (by decide +kernel)) (by decide +kernel)⟩, ⟨by decide +kernel, by decide +kernel⟩, by decide +kernel, by decide⟩
abbrev mJ0_charAt_5068e : sp_M := (yJ0_charAt_5068e, cJ0_charAt_5068e, 2, some .char)
theorem okJ0_charAt_5068e : sp_okV mJ0_charAt_5068e 1 := ⟨sp_inT (List.mem_of_getElem? (i := 467) (by decide +kernel)) (by decide +kernel), sp_inT (List.mem_of_getElem? (i := 69) (by decide +kernel)) (by decide +kernel), ⟨sp_inT (List.mem_of_getElem? (i := 465) (by decide +kernel)) (by decide +kernel), sp_inT (List.mem_of_getElem? (i := 466) (by decide +kernel)) (by decide +kernel)⟩, ⟨by decide +kernel, by decide +kernel⟩, by decide +kernel, by decide⟩
abbrev mJ0_coder_7d493 : sp_M := (yJ0_coder_7d493, cJ0_coder_7d493, 1, some .byte)
theorem okJ0_coder_7d493 : sp_okV mJ0_coder_7d493 0 := ⟨sp_inT (List.mem_of_getElem? (i := 461) (by decide +kernel)) (by decide +kernel), sp_inT (List.mem_of_getElem? (i := 69) (by decide +kernel)) (by decide +kernel), ⟨sp_inT (List.mem_of_getElem? (i := 459) (by decide +kernel)) (by decide +kernel), sp_inT (List.mem_of_getElem? (i := 460) (by decide +kernel)) (by decide +kernel)⟩, ⟨by decide +kernel, by decide +kernel⟩, by decide +kernel, by decide⟩
abbrev mJ0_isLatin1_aae02 : sp_M := (yJ0_isLatin1_aae02, cJ0_isLatin1_aae02, 1, some .boolean)
theorem okJ0_isLatin1_aae02 : sp_okV mJ0_isLatin1_aae02 0 := ⟨sp_inT (List.mem_of_getElem? (i := 471) (by decide +kernel)) (by decide +kernel), sp_inT (List.mem_of_getElem? (i := 69) (by decide +kernel)) (by decide +kernel), ⟨sp_inT (List.mem_of_getElem? (i := 469) (by decide +kernel)) (by decide +kernel), sp_inT (List.mem_of_getElem? (i := 470) (by decide +kernel)) (by decide +kernel)⟩, ⟨by decide +kernel, by decide +kernel⟩, by decide +kernel, by decide⟩
abbrev mJ1_charAt_3b067 : sp_M := (yJ1_charAt_3b067, cJ1_charAt_3b067, 2, some .char)
theorem okJ1_charAt_3b067 : sp_okS mJ1_charAt_3b067 2 := ⟨sp_inT (List.mem_of_getElem? (i := 474) (by decide +kernel)) (by decide +kernel), sp_inT (List.mem_of_getElem? (i := 70) (by decide +kernel)) (by decide +kernel), sp_inT (List.mem_of_getElem? (i := 473) (by decide +kernel)) (by decide +kernel), ⟨by decide +kernel, by decide +kernel⟩, by decide +kernel, by decide⟩
abbrev mJ0_checkIndex_df160 : sp_M := (yJ0_checkIndex_df160, cJ0_checkIndex_df160, 2, none)
theorem okJ0_checkIndex_df160 : sp_okS mJ0_checkIndex_df160 2 := ⟨sp_inT (List.mem_of_getElem? (i := 477) (by decide +kernel)) (by decide +kernel), sp_inT (List.mem_of_getElem? (i := 69) (by decide +kernel)) (by decide +kernel), sp_inT (List.mem_of_getElem? (i := 476) (by decide +kernel)) (by decide +kernel), ⟨by decide +kernel, by decide +kernel⟩, by decide +kernel, by decide⟩
abbrev mJ3_checkIndex_8e157 : sp_M := (yJ3_checkIndex_8e157, cJ3_checkIndex_8e157, 3, some .int)
theorem okJ3_checkIndex_8e157 : sp_okS mJ3_checkIndex_8e157 3 := ⟨sp_inT (List.mem_of_getElem? (i := 482) (by decide +kernel)) (by decide +kernel), sp_inT (List.mem_of_getElem? (i := 71) (by decide +kernel)) (by decide +kernel), sp_inT (List.mem_of_getElem? (i := 481) (by decide +kernel)) (by decide +kernel), ⟨by decide +kernel, by decide +kernel⟩, by decide +kernel, by decide⟩
theorem lkX2_97 : Cond.methodLink RX2 97 yJ0_length_8abf5 ∈ sp_T := sp_inT (List.mem_of_getElem? (i := 454) (by decide +kernel)) (by decide +kernel)
theorem lkX2_101 : Cond.methodLink RX2 101 yJ0_charAt_5068e ∈ sp_T := sp_inT (List.mem_of_getElem? (i := 464) (by decide +kernel)) (by decide +kernel)
theorem lkJ0_335 : Cond.methodLink RJ0 335 yJ0_coder_7d493 ∈ sp_T := sp_inT (List.mem_of_getElem? (i := 458) (by decide +kernel)) (by decide +kernel)
theorem lkJ0_492 : Cond.methodLink RJ0 492 yJ0_isLatin1_aae02 ∈ sp_T := sp_inT (List.mem_of_getElem? (i := 468) (by decide +kernel)) (by decide +kernel)
theorem lkJ0_495 : Cond.methodLink RJ0 495 yJ1_charAt_3b067 ∈ sp_T := sp_inT (List.mem_of_getElem? (i := 472) (by decide +kernel)) (by decide +kernel)
theorem lkJ1_9 : Cond.methodLink RJ1 9 yJ0_checkIndex_df160 ∈ sp_T := sp_inT (List.mem_of_getElem? (i := 475) (by decide +kernel)) (by decide +kernel)
theorem lkJ0_1059 : Cond.methodLink RJ0 1059 yJ3_checkIndex_8e157 ∈ sp_T := sp_inT (List.mem_of_getElem? (i := 480) (by decide +kernel)) (by decide +kernel)
theorem flJ0_38 : Cond.fieldLink RJ0 38 "java/lang/String" "COMPACT_STRINGS" "Z" ∈ sp_T := sp_inT (List.mem_of_getElem? (i := 462) (by decide +kernel)) (by decide +kernel)
theorem flJ0_1053 : Cond.fieldLink RJ0 1053 "jdk/internal/util/Preconditions" "SIOOBE_FORMATTER" "Ljava/util/function/BiFunction;" ∈ sp_T := sp_inT (List.mem_of_getElem? (i := 478) (by decide +kernel)) (by decide +kernel)
theorem flJ0_9 : Cond.fieldLink RJ0 9 "java/lang/String" "value" "[B" ∈ sp_T := sp_inT (List.mem_of_getElem? (i := 1093) (by decide +kernel)) (by decide +kernel)
theorem flJ0_15 : Cond.fieldLink RJ0 15 "java/lang/String" "coder" "B" ∈ sp_T := sp_inT (List.mem_of_getElem? (i := 1094) (by decide +kernel)) (by decide +kernel)
theorem byt_all : ∀ i : Nat, i < 5 → ∀ j : Nat, j < sp_len.getD i 0 → ((sp_byt.getD i []).getD j 0 = Int32.ofInt (wds (wo i + j)) ∧ sp_and (wds (wo i + j)) 255 = wds (wo i + j)) ∧ narrow .char (.int (Int32.ofInt (wds (wo i + j)))) = .int (Int32.ofInt (wds (wo i + j))) ∧ ((Int32.ofInt (wds (wo i + j))).toUInt32 % 65536).toInt32 = Int32.ofInt (wds (wo i + j)) := by decide +kernel
theorem len_all : ∀ i : Nat, i < 5 → ((sp_len.getD i 0 : Nat) : Int) = wl i ∧ sp_shr (wl i) 0 = wl i := by decide +kernel
section STRS
variable {M : sp_M} {d pc : Nat} {L L2 : List (Option sp_V)} {st : List sp_V} {g : sp_G} {Q : sp_P}
theorem aw_callVx {M2 : sp_M} {i : Nat} {as stk : List sp_V} {n ix : Nat} (hd : decode M.2.1 pc = .ok (.invokevirtual ix, 3)) (ho : sp_okV M2 n) (hw : Cond.methodLink M.1.cls ix M2.1 ∈ sp_T) (hi : i < 5) (hci : M2.1.cls = "java/lang/String") (hn : as.length = n) (hstk : stk = as.reverse ++ v_r (80 + i) :: st) (hc : (st.map (fun v => if sp_c1 v = true then 1 else 2)).sum ≤ 8)
    (k : sp_Met d M2 (v_r (80 + i) :: as) g (fun v g2 => sp_AW M (d + 1) (pc + 3) L (sp_psh v st) g2 Q)) : sp_AW M (d + 1) pc L stk g Q := by
  intro l D cA ad p e s m args below meth c C H locs ls hP hD hS hl
  subst hstk
  obtain ⟨o1, o2, o3, o4, o5, o6⟩ := ho
  have hts := C.2.2.2.2.2.2.1
  have cb := callB_of (R := sp_rm (d + 1)) (rm := sp_rm d) (mc := 0) (ms := 0) n hts (sp_good o1) rfl rfl rfl (hts _ (List.mem_cons_of_mem _ o2)) (hts _ (List.mem_cons_of_mem _ hw)) ⟨o4.1, o4.2, o5⟩ (sp_room o6)
  have hrec := vk_recv (i := i) C.2.2.2.2.2.2.2.2.2.2.2.1 hi hS
  rw [← hci] at hrec
  refine sp_back C hD hS hl (va_runV (C := M2.1.cls) (b := ad (80 + i)) (As := as.map (sp_cv ad)) ⟨C.1, C.2.1, C.2.2.1, C.2.2.2.2.2.1, hts⟩ (k l D cA ad) ⟨cb, hts _ (List.mem_cons_of_mem _ o3.1), hts _ (List.mem_cons_of_mem _ o3.2)⟩ ⟨sp_blind, hrec, fun U hU hW => ⟨rfl, sp_pre C hP hD hS hU hW⟩⟩ rfl (by rw [List.length_map]; exact hn) hl.1 (by simp [List.map_append, List.map_reverse, sp_cv]) (lv_room (sp_cat hc)) hd ⟨Nat.le_refl _, Nat.le_refl _⟩)
theorem aw_xval {i ix : Nat} (hd : decode M.2.1 pc = .ok (.getfield ix, 3)) (hi : i < 5) (hw : Cond.fieldLink M.1.cls ix "java/lang/String" "value" "[B" ∈ sp_T) (kk : sp_AW M d (pc + 3) L (v_r (85 + i) :: st) g Q) : sp_AW M d pc L (v_r (80 + i) :: st) g Q := by
  intro l D cA ad p e s m args below meth c C H locs ls hP hD hS hl
  exact vk_getf C.1 C.2.1 ((C.2.2.2.2.2.2.2.2.2.2.2.1.1 i hi).2.2.1) hS C.2.2.2.2.2.1 (C.2.2.2.2.2.2.1 _ (List.mem_cons_of_mem _ hw)) (fun _ h => h) hd (kk l D cA ad p e s m args below meth c C H locs ls hP hD hS hl)
theorem aw_xcod {i ix : Nat} (hd : decode M.2.1 pc = .ok (.getfield ix, 3)) (hi : i < 5) (hw : Cond.fieldLink M.1.cls ix "java/lang/String" "coder" "B" ∈ sp_T) (kk : sp_AW M d (pc + 3) L (v_i 0 :: st) g Q) : sp_AW M d pc L (v_r (80 + i) :: st) g Q := by
  intro l D cA ad p e s m args below meth c C H locs ls hP hD hS hl
  exact vk_getf C.1 C.2.1 ((C.2.2.2.2.2.2.2.2.2.2.2.1.1 i hi).2.1) hS C.2.2.2.2.2.1 (C.2.2.2.2.2.2.1 _ (List.mem_cons_of_mem _ hw)) (fun _ h => h) hd (kk l D cA ad p e s m args below meth c C H locs ls hP hD hS hl)
theorem aw_xcs {ix : Nat} (hd : decode M.2.1 pc = .ok (.getstatic ix, 3)) (hw : Cond.fieldLink M.1.cls ix "java/lang/String" "COMPACT_STRINGS" "Z" ∈ sp_T) (kk : sp_AW M d (pc + 3) L (v_i 1 :: st) g Q) : sp_AW M d pc L st g Q := by
  intro l D cA ad p e s m args below meth c C H locs ls hP hD hS hl
  exact va_gets C.1 C.2.1 C.2.2.2.2.2.2.2.2.2.2.2.2.1 hS C.2.2.2.2.2.1 (C.2.2.2.2.2.2.1 _ (List.mem_cons_of_mem _ hw)) (fun _ h => h) hd (kk l D cA ad p e s m args below meth c C H locs ls hP hD hS hl)
theorem aw_xlen {i : Nat} (hd : decode M.2.1 pc = .ok (.arraylength, 1)) (hi : i < 5) (kk : sp_AW M d (pc + 1) L (v_i (wl i) :: st) g Q) : sp_AW M d pc L (v_r (85 + i) :: st) g Q := by
  intro l D cA ad p e s m args below meth c C H locs ls hP hD hS hl
  exact va_tlen C.1 C.2.1 ((C.2.2.2.2.2.2.2.2.2.2.2.1.1 i hi).2.2.2) hS (v := Int32.ofInt (wl i)) (by rw [← (len_all i hi).1]; rfl) hd (kk l D cA ad p e s m args below meth c C H locs ls hP hD hS hl)
theorem aw_xbal {i : Nat} {j : Int} (hd : decode M.2.1 pc = .ok (.baload, 1)) (hi : i < 5) (hj : 0 ≤ j ∧ j < wl i) (kk : sp_AW M d (pc + 1) L (v_i (wds (wo i + j)) :: st) g Q) : sp_AW M d pc L (v_i j :: v_r (85 + i) :: st) g Q := by
  intro l D cA ad p e s m args below meth c C H locs ls hP hD hS hl
  have el := (len_all i hi).1
  have hw := wl_b i
  have hn : sp_len.getD i 0 < 2147483648 := by omega
  have hj2 : 0 ≤ j ∧ j < (sp_len.getD i 0 : Nat) := by omega
  have hb := (byt_all i hi j.toNat (by omega)).1.1
  rw [Int.toNat_of_nonneg hj.1] at hb
  refine va_tb C.1 C.2.1 ((C.2.2.2.2.2.2.2.2.2.2.2.1.1 i hi).2.2.2) hS (sp_in0 hj2 hn) (v := .int (Int32.ofInt (wds (wo i + j)))) (by rw [sp_cl0 hj2 hn, hb]) hd (kk l D cA ad p e s m args below meth c C H locs ls hP hD hS hl)
theorem aw_nret {x : Int} {ty : FieldType} (hd : decode M.2.1 pc = .ok (.ireturn, 1)) (hr : M.2.2.2 = some ty) (hb : narrow ty (.int (Int32.ofInt x)) = .int (Int32.ofInt x)) (hq : Q (some (v_i x)) g) : sp_AW M d pc L [v_i x] g Q := by
  intro l D cA ad p e s m args below meth c C H locs ls hP hD hS hl
  exact W.zret C.1 C.2.1 (C.2.2.2.1.trans hr) hb (fun t ht _ => sp_fin (v := some (v_i x)) hP hS hq ht) hS.2.2 hd (hlocks := C.2.2.2.2.1)
theorem aw_i2c {x : Int} (hd : decode M.2.1 pc = .ok (.i2c, 1)) (hx : ((Int32.ofInt x).toUInt32 % 65536).toInt32 = Int32.ofInt x) (k : sp_AW M d (pc + 1) L (v_i x :: st) g Q) : sp_AW M d pc L (v_i x :: st) g Q := by
  intro l D cA ad p e s m args below meth c C H locs ls hP hD hS hl
  exact lv_i2c C.1 C.2.1 hd hx (k l D cA ad p e s m args below meth c C H locs ls hP hD hS hl)
theorem aw_ck0 {i n : Int} (hi : 0 ≤ i ∧ i < n) (hn : n < 2147483648) (hQ : Q (some (v_i i)) g) : sp_AW mJ3_checkIndex_8e157 d 0 [some (v_i i), some (v_i n), none] [] g Q := by
  refine aw_iload_n dJ3_checkIndex_8e157_0 rfl ?_
  refine aw_if_lt (tg := 9) dJ3_checkIndex_8e157_1 (by decide) (by omega) (fun h => absurd h (by omega)) (fun h => ?_)
  refine aw_iload_n dJ3_checkIndex_8e157_4 rfl ?_
  refine aw_iload_n dJ3_checkIndex_8e157_5 rfl ?_
  refine aw_icmp_lt (tg := 16) dJ3_checkIndex_8e157_6 (by decide) (by omega) (fun h => ?_) (fun h => absurd h (by omega))
  refine aw_iload_n dJ3_checkIndex_8e157_16 rfl ?_
  refine aw_iret dJ3_checkIndex_8e157_17 rfl ?_
  exact hQ
theorem sp_ck {i n : Int} (hi : 0 ≤ i ∧ i < n) (hn : n < 2147483648) (hQ : Q (some (v_i i)) g) {v3 : Value} (h3 : ¬ v3.category = 2) (l : Launch) (D : va_G) (cA : Nat → ClassId) (ad : Nat → Nat) : Met l yJ3_checkIndex_8e157 (sp_ws mJ3_checkIndex_8e157) (sp_rm d) (va_Pc [.int (Int32.ofInt i), .int (Int32.ofInt n), v3] (sp_Wd D cA ad g)) (sp_Q D cA ad Q) 0 0 (sp_A ad) := by
  refine Met.ofW (cc := cJ3_checkIndex_8e157) (maxL := 3) (ret := some .int) (by decide +kernel) rfl ?_
  intro p e s m args below meth c s₁ B hml hv
  obtain ⟨rfl, hP, hK, hD, hN, hE⟩ := hv
  have hts := atoms_spec (ws := sp_ws mJ3_checkIndex_8e157) B.pre
  have hown : s.vm.findClass RJ3 = some m.cls := findClass_of_methodNamed B.named
  have hsl : lg_sl [.int (Int32.ofInt i), .int (Int32.ofInt n), v3] = [Slot.val (.int (Int32.ofInt i)), Slot.val (.int (Int32.ofInt n)), Slot.val v3] := by
    simp only [lg_sl, List.flatMap_cons, List.flatMap_nil, if_neg h3]
    rfl
  have hl := lv_entry [.int (Int32.ofInt i), .int (Int32.ofInt n), v3] (n := 3) (by rw [hsl]; exact Nat.le_refl 3)
  have hl2 : lv_has ((lg_sl [.int (Int32.ofInt i), .int (Int32.ofInt n), v3] ++ List.replicate (3 - (lg_sl [.int (Int32.ofInt i), .int (Int32.ofInt n), v3]).length) Slot.unset).toArray) 3 (sp_lv ad 0 [some (v_i i), some (v_i n), none]) := by
    refine ⟨hl.1, hl.2.1, fun q hq => hl.2.2 q ?_⟩
    simp only [sp_lv, List.mem_cons, List.not_mem_nil, or_false] at hq
    rcases hq with h | h <;> rw [h] <;> simp [lv_args, Value.category, sp_cv]
  rw [lg_entry_eq]
  exact aw_ck0 hi hn hQ l D cA ad p e s m _ below meth c ⟨B.exec, B.bytes, hml, B.returns, B.notSynchronized, hown, hts, hK, hN, hE⟩ s.heap [] _ hP hD va_S.rf hl2
theorem aw_sio {ix ix2 : Nat} {i n : Int} (hd : decode M.2.1 pc = .ok (.getstatic ix, 3)) (hw : Cond.fieldLink M.1.cls ix "jdk/internal/util/Preconditions" "SIOOBE_FORMATTER" "Ljava/util/function/BiFunction;" ∈ sp_T) (hd2 : decode M.2.1 (pc + 3) = .ok (.invokestatic ix2, 3)) (hw2 : Cond.methodLink M.1.cls ix2 yJ3_checkIndex_8e157 ∈ sp_T) (hi : 0 ≤ i ∧ i < n) (hn : n < 2147483648) (hc : (st.map (fun v => if sp_c1 v = true then 1 else 2)).sum ≤ 8) (kk : sp_AW M (d + 1) (pc + 3 + 3) L (v_i i :: st) g Q) : sp_AW M (d + 1) pc L (v_i n :: v_i i :: st) g Q := by
  intro l D cA ad p e s m args below meth c C H locs ls hP hD hS hl
  obtain ⟨o1, o2, o3, o4, o5, o6⟩ := okJ3_checkIndex_8e157
  have hts := C.2.2.2.2.2.2.1
  have cb := callB_of (R := sp_rm (d + 1)) (rm := sp_rm d) (mc := 0) (ms := 0) 3 hts (sp_good o1) rfl rfl rfl (hts _ (List.mem_cons_of_mem _ o2)) (hts _ (List.mem_cons_of_mem _ hw2)) ⟨o4.1, o4.2, o5⟩ (sp_room o6)
  have key : ∀ v3 : Value, ¬ v3.category = 2 → W p l e (sp_rm (d + 1)) s m args below meth c H locs 0 0 (MQ below (sp_Q D cA ad Q) args s 0 0 (sp_A ad)) (F0 m (pc + 3) ls (v3 :: .int (Int32.ofInt n) :: .int (Int32.ofInt i) :: st.map (sp_cv ad))) := by
    intro v3 h3
    refine sp_back C hD hS hl (va_runS (As := [.int (Int32.ofInt i), .int (Int32.ofInt n), v3]) ⟨C.1, C.2.1, C.2.2.1, C.2.2.2.2.2.1, hts⟩ (sp_ck (Q := fun v g2 => sp_AW M (d + 1) (pc + 3 + 3) L (sp_psh v st) g2 Q) hi hn kk h3 l D cA ad) ⟨cb, hts _ (List.mem_cons_of_mem _ o3)⟩ ⟨?_, fun U hU hW => ⟨rfl, sp_pre C hP hD hS hU hW⟩⟩ rfl rfl hl.1 (by simp) (lv_room (sp_cat hc)) hd2 ⟨Nat.le_refl _, Nat.le_refl _⟩)
    intro a U gg mk q
    obtain ⟨q0, qP, qK, qD, qN, qE⟩ := q
    exact ⟨q0, qP, va_K.moved (u := U) (U := U.calling gg mk a) (Vm.Alike.refl U.vm) qK, qD, sp_Nst.same (s := U) (U := U.calling gg mk a) rfl qN, sp_Ext.same (s := U) (U := U.calling gg mk a) rfl rfl qE⟩
  rcases C.2.2.2.2.2.2.2.2.2.2.2.2.2 with h | ⟨t, h⟩
  · exact va_gets C.1 C.2.1 h hS C.2.2.2.2.2.1 (hts _ (List.mem_cons_of_mem _ hw)) (fun _ h => h) hd (key _ (by simp [Value.category]))
  · exact va_gets C.1 C.2.1 h hS C.2.2.2.2.2.1 (hts _ (List.mem_cons_of_mem _ hw)) (fun _ h => h) hd (key _ (by simp [Value.category]))
end STRS
theorem tJ0_checkIndex (d : Nat) {i n : Int} {g : sp_G} {Q : sp_P} (hi : 0 ≤ i ∧ i < n) (hn : n < 2147483648) (hQ : Q none g) : sp_Met (d + 1) mJ0_checkIndex_df160 [v_i i, v_i n] g Q := by
  refine sp_of (L := [_, _]) (by decide) (Nat.le_of_ble_eq_true rfl) rfl rfl ?_
  refine aw_iload_n dJ0_checkIndex_df160_0 rfl ?_
  refine aw_iload_n dJ0_checkIndex_df160_1 rfl ?_
  refine aw_sio dJ0_checkIndex_df160_2 flJ0_1053 dJ0_checkIndex_df160_5 lkJ0_1059 hi hn (by decide) ?_
  refine aw_pop dJ0_checkIndex_df160_8 rfl ?_
  refine aw_vret dJ0_checkIndex_df160_9 rfl ?_
  exact hQ
theorem tJ1_charAt (d : Nat) {i : Nat} {j : Int} {g : sp_G} {Q : sp_P} (hi : i < 5) (hj : 0 ≤ j ∧ j < wl i) (hQ : Q (some (v_i (wds (wo i + j)))) g) : sp_Met (d + 2) mJ1_charAt_3b067 [v_r (85 + i), v_i j] g Q := by
  have hw := wl_b i
  have hb := byt_all i hi j.toNat (by have := (len_all i hi).1; omega)
  rw [Int.toNat_of_nonneg hj.1] at hb
  refine sp_of (L := [_, _]) (by decide) (Nat.le_of_ble_eq_true rfl) rfl rfl ?_
  refine aw_iload_n dJ1_charAt_3b067_0 rfl ?_
  refine aw_aload_n dJ1_charAt_3b067_1 rfl ?_
  refine aw_xlen dJ1_charAt_3b067_2 hi ?_
  refine aw_S2 dJ1_charAt_3b067_3 okJ0_checkIndex_df160 lkJ1_9 rfl ?_
  refine tJ0_checkIndex _ hj (by omega) ?_
  refine aw_aload_n dJ1_charAt_3b067_6 rfl ?_
  refine aw_iload_n dJ1_charAt_3b067_7 rfl ?_
  refine aw_xbal dJ1_charAt_3b067_8 hi hj ?_
  refine aw_sipush dJ1_charAt_3b067_9 (by decide) ?_
  refine aw_iand dJ1_charAt_3b067_12 ?_
  rw [hb.1.2]
  refine aw_i2c dJ1_charAt_3b067_13 hb.2.2 ?_
  refine aw_nret dJ1_charAt_3b067_14 rfl hb.2.1 ?_
  exact hQ
theorem tJ0_isLatin1 (d : Nat) {i : Nat} {g : sp_G} {Q : sp_P} (hi : i < 5) (hQ : Q (some (v_i 1)) g) : sp_Met d mJ0_isLatin1_aae02 [v_r (80 + i)] g Q := by
  refine sp_of (L := [_]) (by decide) (Nat.le_of_ble_eq_true rfl) rfl rfl ?_
  refine aw_xcs dJ0_isLatin1_aae02_0 flJ0_38 ?_
  refine aw_if_eq (tg := 17) dJ0_isLatin1_aae02_3 (by decide) (by omega) (fun h => absurd h (by omega)) (fun h => ?_)
  refine aw_aload_n dJ0_isLatin1_aae02_6 rfl ?_
  refine aw_xcod dJ0_isLatin1_aae02_7 hi flJ0_15 ?_
  refine aw_if_ne (tg := 17) dJ0_isLatin1_aae02_10 (by decide) (by omega) (fun h => absurd rfl h) (fun h => ?_)
  refine aw_iconst dJ0_isLatin1_aae02_13 ?_
  refine aw_goto (tg := 18) dJ0_isLatin1_aae02_14 (by decide) ?_
  refine aw_zret dJ0_isLatin1_aae02_18 rfl (by omega) ?_
  exact hQ
theorem tJ0_coder (d : Nat) {i : Nat} {g : sp_G} {Q : sp_P} (hi : i < 5) (hQ : Q (some (v_i 0)) g) : sp_Met d mJ0_coder_7d493 [v_r (80 + i)] g Q := by
  refine sp_of (L := [_]) (by decide) (Nat.le_of_ble_eq_true rfl) rfl rfl ?_
  refine aw_xcs dJ0_coder_7d493_0 flJ0_38 ?_
  refine aw_if_eq (tg := 13) dJ0_coder_7d493_3 (by decide) (by omega) (fun h => absurd h (by omega)) (fun h => ?_)
  refine aw_aload_n dJ0_coder_7d493_6 rfl ?_
  refine aw_xcod dJ0_coder_7d493_7 hi flJ0_15 ?_
  refine aw_goto (tg := 14) dJ0_coder_7d493_10 (by decide) ?_
  refine aw_nret dJ0_coder_7d493_14 rfl (by decide +kernel) ?_
  exact hQ
theorem tJ0_length (d : Nat) {i : Nat} {g : sp_G} {Q : sp_P} (hi : i < 5) (hQ : Q (some (v_i (wl i))) g) : sp_Met (d + 1) mJ0_length_8abf5 [v_r (80 + i)] g Q := by
  refine sp_of (L := [_]) (by decide) (Nat.le_of_ble_eq_true rfl) rfl rfl ?_
  refine aw_aload_n dJ0_length_8abf5_0 rfl ?_
  refine aw_xval dJ0_length_8abf5_1 hi flJ0_9 ?_
  refine aw_xlen dJ0_length_8abf5_4 hi ?_
  refine aw_aload_n dJ0_length_8abf5_5 rfl ?_
  refine aw_callVx (as := []) (i := i) dJ0_length_8abf5_6 okJ0_coder_7d493 lkJ0_335 hi rfl rfl rfl (Nat.le_of_ble_eq_true rfl) ?_
  refine tJ0_coder _ hi ?_
  refine aw_ishr dJ0_length_8abf5_9 ?_
  rw [(len_all i hi).2]
  refine aw_iret dJ0_length_8abf5_10 rfl ?_
  exact hQ
theorem tJ0_charAt (d : Nat) {i : Nat} {j : Int} {g : sp_G} {Q : sp_P} (hi : i < 5) (hj : 0 ≤ j ∧ j < wl i) (hQ : Q (some (v_i (wds (wo i + j)))) g) : sp_Met (d + 3) mJ0_charAt_5068e [v_r (80 + i), v_i j] g Q := by
  have hb := byt_all i hi j.toNat (by have := (len_all i hi).1; omega)
  rw [Int.toNat_of_nonneg hj.1] at hb
  refine sp_of (L := [_, _]) (by decide) (Nat.le_of_ble_eq_true rfl) rfl rfl ?_
  refine aw_aload_n dJ0_charAt_5068e_0 rfl ?_
  refine aw_callVx (as := []) (i := i) dJ0_charAt_5068e_1 okJ0_isLatin1_aae02 lkJ0_492 hi rfl rfl rfl (by decide) ?_
  refine tJ0_isLatin1 _ hi ?_
  refine aw_if_eq (tg := 16) dJ0_charAt_5068e_4 (by decide) (by omega) (fun h => absurd h (by omega)) (fun h => ?_)
  refine aw_aload_n dJ0_charAt_5068e_7 rfl ?_
  refine aw_xval dJ0_charAt_5068e_8 hi flJ0_9 ?_
  refine aw_iload_n dJ0_charAt_5068e_11 rfl ?_
  refine aw_S2 dJ0_charAt_5068e_12 okJ1_charAt_3b067 lkJ0_495 rfl ?_
  refine tJ1_charAt _ hi hj ?_
  refine aw_nret dJ0_charAt_5068e_15 rfl hb.2.1 ?_
  exact hQ
