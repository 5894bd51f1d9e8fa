section CALLS
variable {M M2 : sp_M} {d pc : Nat} {L L2 : List (Option sp_V)} {st : List sp_V} {g : sp_G} {Q : sp_P}
theorem aw_S0 {ix : Nat} (hd : decode M.2.1 pc = .ok (.invokestatic ix, 3)) (ho : sp_okS M2 0) (hw : Cond.methodLink M.1.cls ix M2.1 ∈ sp_T) (hc : Nat.ble (st.map (fun v => if sp_c1 v = true then 1 else 2)).sum 8 = true) (k : sp_Met d M2 [] g (fun v g2 => sp_AW M (d + 1) (pc + 3) L (sp_psh v st) g2 Q)) : sp_AW M (d + 1) pc L (st) g Q := aw_callS (as := []) hd ho hw rfl rfl (Nat.le_of_ble_eq_true hc) k
theorem aw_N0 {ix : Nat} {host : String} (hd : decode M.2.1 pc = .ok (.invokestatic ix, 3)) (ho : sp_okS M2 0) (hw : Cond.methodLinkNest M.1.cls ix M2.1 host ∈ lw_tbl) (hc : Nat.ble (st.map (fun v => if sp_c1 v = true then 1 else 2)).sum 8 = true) (k : sp_Met d M2 [] g (fun v g2 => sp_AW M (d + 1) (pc + 3) L (sp_psh v st) g2 Q)) : sp_AW M (d + 1) pc L (st) g Q := aw_callSn (as := []) hd ho hw rfl rfl (Nat.le_of_ble_eq_true hc) k
theorem aw_V0 {ix o ci N : Nat} {T : u_T} {fl : List (Option Nat)} (hd : decode M.2.1 pc = .ok (.invokevirtual ix, 3)) (ho : sp_okV M2 0) (hw : Cond.methodLink M.1.cls ix M2.1 ∈ sp_T) (hs : sp_sh[o]? = some (.inl (ci, fl))) (hci : sp_cl[ci]? = some (M2.1.cls, T, N)) (hc : Nat.ble (st.map (fun v => if sp_c1 v = true then 1 else 2)).sum 8 = true) (k : sp_Met d M2 (v_r o :: []) g (fun v g2 => sp_AW M (d + 1) (pc + 3) L (sp_psh v st) g2 Q)) : sp_AW M (d + 1) pc L (v_r o :: st) g Q := aw_callV (as := []) hd ho hw hs hci rfl rfl (Nat.le_of_ble_eq_true hc) k
theorem aw_S1 {a0 : sp_V} {ix : Nat} (hd : decode M.2.1 pc = .ok (.invokestatic ix, 3)) (ho : sp_okS M2 1) (hw : Cond.methodLink M.1.cls ix M2.1 ∈ sp_T) (hc : Nat.ble (st.map (fun v => if sp_c1 v = true then 1 else 2)).sum 8 = true) (k : sp_Met d M2 [a0] g (fun v g2 => sp_AW M (d + 1) (pc + 3) L (sp_psh v st) g2 Q)) : sp_AW M (d + 1) pc L (a0 :: st) g Q := aw_callS (as := [a0]) hd ho hw rfl rfl (Nat.le_of_ble_eq_true hc) k
theorem aw_N1 {a0 : sp_V} {ix : Nat} {host : String} (hd : decode M.2.1 pc = .ok (.invokestatic ix, 3)) (ho : sp_okS M2 1) (hw : Cond.methodLinkNest M.1.cls ix M2.1 host ∈ lw_tbl) (hc : Nat.ble (st.map (fun v => if sp_c1 v = true then 1 else 2)).sum 8 = true) (k : sp_Met d M2 [a0] g (fun v g2 => sp_AW M (d + 1) (pc + 3) L (sp_psh v st) g2 Q)) : sp_AW M (d + 1) pc L (a0 :: st) g Q := aw_callSn (as := [a0]) hd ho hw rfl rfl (Nat.le_of_ble_eq_true hc) k
theorem aw_V1 {a0 : sp_V} {ix o ci N : Nat} {T : u_T} {fl : List (Option Nat)} (hd : decode M.2.1 pc = .ok (.invokevirtual ix, 3)) (ho : sp_okV M2 1) (hw : Cond.methodLink M.1.cls ix M2.1 ∈ sp_T) (hs : sp_sh[o]? = some (.inl (ci, fl))) (hci : sp_cl[ci]? = some (M2.1.cls, T, N)) (hc : Nat.ble (st.map (fun v => if sp_c1 v = true then 1 else 2)).sum 8 = true) (k : sp_Met d M2 (v_r o :: [a0]) g (fun v g2 => sp_AW M (d + 1) (pc + 3) L (sp_psh v st) g2 Q)) : sp_AW M (d + 1) pc L (a0 :: v_r o :: st) g Q := aw_callV (as := [a0]) hd ho hw hs hci rfl rfl (Nat.le_of_ble_eq_true hc) k
theorem aw_S2 {a0 a1 : sp_V} {ix : Nat} (hd : decode M.2.1 pc = .ok (.invokestatic ix, 3)) (ho : sp_okS M2 2) (hw : Cond.methodLink M.1.cls ix M2.1 ∈ sp_T) (hc : Nat.ble (st.map (fun v => if sp_c1 v = true then 1 else 2)).sum 8 = true) (k : sp_Met d M2 [a0, a1] g (fun v g2 => sp_AW M (d + 1) (pc + 3) L (sp_psh v st) g2 Q)) : sp_AW M (d + 1) pc L (a1 :: a0 :: st) g Q := aw_callS (as := [a0, a1]) hd ho hw rfl rfl (Nat.le_of_ble_eq_true hc) k
theorem aw_N2 {a0 a1 : sp_V} {ix : Nat} {host : String} (hd : decode M.2.1 pc = .ok (.invokestatic ix, 3)) (ho : sp_okS M2 2) (hw : Cond.methodLinkNest M.1.cls ix M2.1 host ∈ lw_tbl) (hc : Nat.ble (st.map (fun v => if sp_c1 v = true then 1 else 2)).sum 8 = true) (k : sp_Met d M2 [a0, a1] g (fun v g2 => sp_AW M (d + 1) (pc + 3) L (sp_psh v st) g2 Q)) : sp_AW M (d + 1) pc L (a1 :: a0 :: st) g Q := aw_callSn (as := [a0, a1]) hd ho hw rfl rfl (Nat.le_of_ble_eq_true hc) k
theorem aw_V2 {a0 a1 : sp_V} {ix o ci N : Nat} {T : u_T} {fl : List (Option Nat)} (hd : decode M.2.1 pc = .ok (.invokevirtual ix, 3)) (ho : sp_okV M2 2) (hw : Cond.methodLink M.1.cls ix M2.1 ∈ sp_T) (hs : sp_sh[o]? = some (.inl (ci, fl))) (hci : sp_cl[ci]? = some (M2.1.cls, T, N)) (hc : Nat.ble (st.map (fun v => if sp_c1 v = true then 1 else 2)).sum 8 = true) (k : sp_Met d M2 (v_r o :: [a0, a1]) g (fun v g2 => sp_AW M (d + 1) (pc + 3) L (sp_psh v st) g2 Q)) : sp_AW M (d + 1) pc L (a1 :: a0 :: v_r o :: st) g Q := aw_callV (as := [a0, a1]) hd ho hw hs hci rfl rfl (Nat.le_of_ble_eq_true hc) k
theorem aw_S3 {a0 a1 a2 : sp_V} {ix : Nat} (hd : decode M.2.1 pc = .ok (.invokestatic ix, 3)) (ho : sp_okS M2 3) (hw : Cond.methodLink M.1.cls ix M2.1 ∈ sp_T) (hc : Nat.ble (st.map (fun v => if sp_c1 v = true then 1 else 2)).sum 8 = true) (k : sp_Met d M2 [a0, a1, a2] g (fun v g2 => sp_AW M (d + 1) (pc + 3) L (sp_psh v st) g2 Q)) : sp_AW M (d + 1) pc L (a2 :: a1 :: a0 :: st) g Q := aw_callS (as := [a0, a1, a2]) hd ho hw rfl rfl (Nat.le_of_ble_eq_true hc) k
theorem aw_N3 {a0 a1 a2 : sp_V} {ix : Nat} {host : String} (hd : decode M.2.1 pc = .ok (.invokestatic ix, 3)) (ho : sp_okS M2 3) (hw : Cond.methodLinkNest M.1.cls ix M2.1 host ∈ lw_tbl) (hc : Nat.ble (st.map (fun v => if sp_c1 v = true then 1 else 2)).sum 8 = true) (k : sp_Met d M2 [a0, a1, a2] g (fun v g2 => sp_AW M (d + 1) (pc + 3) L (sp_psh v st) g2 Q)) : sp_AW M (d + 1) pc L (a2 :: a1 :: a0 :: st) g Q := aw_callSn (as := [a0, a1, a2]) hd ho hw rfl rfl (Nat.le_of_ble_eq_true hc) k
theorem aw_V3 {a0 a1 a2 : sp_V} {ix o ci N : Nat} {T : u_T} {fl : List (Option Nat)} (hd : decode M.2.1 pc = .ok (.invokevirtual ix, 3)) (ho : sp_okV M2 3) (hw : Cond.methodLink M.1.cls ix M2.1 ∈ sp_T) (hs : sp_sh[o]? = some (.inl (ci, fl))) (hci : sp_cl[ci]? = some (M2.1.cls, T, N)) (hc : Nat.ble (st.map (fun v => if sp_c1 v = true then 1 else 2)).sum 8 = true) (k : sp_Met d M2 (v_r o :: [a0, a1, a2]) g (fun v g2 => sp_AW M (d + 1) (pc + 3) L (sp_psh v st) g2 Q)) : sp_AW M (d + 1) pc L (a2 :: a1 :: a0 :: v_r o :: st) g Q := aw_callV (as := [a0, a1, a2]) hd ho hw hs hci rfl rfl (Nat.le_of_ble_eq_true hc) k
theorem aw_S4 {a0 a1 a2 a3 : sp_V} {ix : Nat} (hd : decode M.2.1 pc = .ok (.invokestatic ix, 3)) (ho : sp_okS M2 4) (hw : Cond.methodLink M.1.cls ix M2.1 ∈ sp_T) (hc : Nat.ble (st.map (fun v => if sp_c1 v = true then 1 else 2)).sum 8 = true) (k : sp_Met d M2 [a0, a1, a2, a3] g (fun v g2 => sp_AW M (d + 1) (pc + 3) L (sp_psh v st) g2 Q)) : sp_AW M (d + 1) pc L (a3 :: a2 :: a1 :: a0 :: st) g Q := aw_callS (as := [a0, a1, a2, a3]) hd ho hw rfl rfl (Nat.le_of_ble_eq_true hc) k
theorem aw_N4 {a0 a1 a2 a3 : sp_V} {ix : Nat} {host : String} (hd : decode M.2.1 pc = .ok (.invokestatic ix, 3)) (ho : sp_okS M2 4) (hw : Cond.methodLinkNest M.1.cls ix M2.1 host ∈ lw_tbl) (hc : Nat.ble (st.map (fun v => if sp_c1 v = true then 1 else 2)).sum 8 = true) (k : sp_Met d M2 [a0, a1, a2, a3] g (fun v g2 => sp_AW M (d + 1) (pc + 3) L (sp_psh v st) g2 Q)) : sp_AW M (d + 1) pc L (a3 :: a2 :: a1 :: a0 :: st) g Q := aw_callSn (as := [a0, a1, a2, a3]) hd ho hw rfl rfl (Nat.le_of_ble_eq_true hc) k
theorem aw_V4 {a0 a1 a2 a3 : sp_V} {ix o ci N : Nat} {T : u_T} {fl : List (Option Nat)} (hd : decode M.2.1 pc = .ok (.invokevirtual ix, 3)) (ho : sp_okV M2 4) (hw : Cond.methodLink M.1.cls ix M2.1 ∈ sp_T) (hs : sp_sh[o]? = some (.inl (ci, fl))) (hci : sp_cl[ci]? = some (M2.1.cls, T, N)) (hc : Nat.ble (st.map (fun v => if sp_c1 v = true then 1 else 2)).sum 8 = true) (k : sp_Met d M2 (v_r o :: [a0, a1, a2, a3]) g (fun v g2 => sp_AW M (d + 1) (pc + 3) L (sp_psh v st) g2 Q)) : sp_AW M (d + 1) pc L (a3 :: a2 :: a1 :: a0 :: v_r o :: st) g Q := aw_callV (as := [a0, a1, a2, a3]) hd ho hw hs hci rfl rfl (Nat.le_of_ble_eq_true hc) k
theorem aw_S5 {a0 a1 a2 a3 a4 : sp_V} {ix : Nat} (hd : decode M.2.1 pc = .ok (.invokestatic ix, 3)) (ho : sp_okS M2 5) (hw : Cond.methodLink M.1.cls ix M2.1 ∈ sp_T) (hc : Nat.ble (st.map (fun v => if sp_c1 v = true then 1 else 2)).sum 8 = true) (k : sp_Met d M2 [a0, a1, a2, a3, a4] g (fun v g2 => sp_AW M (d + 1) (pc + 3) L (sp_psh v st) g2 Q)) : sp_AW M (d + 1) pc L (a4 :: a3 :: a2 :: a1 :: a0 :: st) g Q := aw_callS (as := [a0, a1, a2, a3, a4]) hd ho hw rfl rfl (Nat.le_of_ble_eq_true hc) k
theorem aw_N5 {a0 a1 a2 a3 a4 : sp_V} {ix : Nat} {host : String} (hd : decode M.2.1 pc = .ok (.invokestatic ix, 3)) (ho : sp_okS M2 5) (hw : Cond.methodLinkNest M.1.cls ix M2.1 host ∈ lw_tbl) (hc : Nat.ble (st.map (fun v => if sp_c1 v = true then 1 else 2)).sum 8 = true) (k : sp_Met d M2 [a0, a1, a2, a3, a4] g (fun v g2 => sp_AW M (d + 1) (pc + 3) L (sp_psh v st) g2 Q)) : sp_AW M (d + 1) pc L (a4 :: a3 :: a2 :: a1 :: a0 :: st) g Q := aw_callSn (as := [a0, a1, a2, a3, a4]) hd ho hw rfl rfl (Nat.le_of_ble_eq_true hc) k
theorem aw_V5 {a0 a1 a2 a3 a4 : sp_V} {ix o ci N : Nat} {T : u_T} {fl : List (Option Nat)} (hd : decode M.2.1 pc = .ok (.invokevirtual ix, 3)) (ho : sp_okV M2 5) (hw : Cond.methodLink M.1.cls ix M2.1 ∈ sp_T) (hs : sp_sh[o]? = some (.inl (ci, fl))) (hci : sp_cl[ci]? = some (M2.1.cls, T, N)) (hc : Nat.ble (st.map (fun v => if sp_c1 v = true then 1 else 2)).sum 8 = true) (k : sp_Met d M2 (v_r o :: [a0, a1, a2, a3, a4]) g (fun v g2 => sp_AW M (d + 1) (pc + 3) L (sp_psh v st) g2 Q)) : sp_AW M (d + 1) pc L (a4 :: a3 :: a2 :: a1 :: a0 :: v_r o :: st) g Q := aw_callV (as := [a0, a1, a2, a3, a4]) hd ho hw hs hci rfl rfl (Nat.le_of_ble_eq_true hc) k
theorem sp_mx1 : Cond.static Lib.Math.max.name ∈ sp_T := sp_inT (List.mem_of_getElem? (i := 355) (by decide +kernel)) (by decide +kernel)
theorem sp_mx2 : Cond.code Lib.Math.max.name Lib.Math.max.code 2 (some .int) ∈ sp_T := sp_inT (List.mem_of_getElem? (i := 356) (by decide +kernel)) (by decide +kernel)
theorem sp_mn1 : Cond.static Lib.Math.min.name ∈ sp_T := sp_inT (List.mem_of_getElem? (i := 281) (by decide +kernel)) (by decide +kernel)
theorem sp_mn2 : Cond.code Lib.Math.min.name Lib.Math.min.code 2 (some .int) ∈ sp_T := sp_inT (List.mem_of_getElem? (i := 282) (by decide +kernel)) (by decide +kernel)
theorem sp_mi : Cond.initialized "java/lang/Math" ∈ sp_T := sp_inT (List.mem_of_getElem? (i := 68) (by decide +kernel)) (by decide +kernel)
theorem sp_ac1 : Cond.static arraycopyName ∈ sp_T := sp_inT (List.mem_of_getElem? (i := 278) (by decide +kernel)) (by decide +kernel)
theorem sp_ac2 : Cond.native arraycopyName ∈ sp_T := sp_inT (List.mem_of_getElem? (i := 279) (by decide +kernel)) (by decide +kernel)
theorem sp_ac3 : Cond.initialized "java/lang/System" ∈ sp_T := sp_inT (List.mem_of_getElem? (i := 67) (by decide +kernel)) (by decide +kernel)
theorem lkX4_25 : Cond.methodLink RX4 25 arraycopyName ∈ sp_T := sp_inT (List.mem_of_getElem? (i := 277) (by decide +kernel)) (by decide +kernel)
theorem lkX1_27 : Cond.methodLink RX1 27 Lib.Math.min.name ∈ sp_T := sp_inT (List.mem_of_getElem? (i := 280) (by decide +kernel)) (by decide +kernel)
theorem lkX4_58 : Cond.methodLink RX4 58 Lib.Math.max.name ∈ sp_T := sp_inT (List.mem_of_getElem? (i := 354) (by decide +kernel)) (by decide +kernel)
theorem lkX5_249 : Cond.methodLink RX5 249 Lib.Math.max.name ∈ sp_T := sp_inT (List.mem_of_getElem? (i := 725) (by decide +kernel)) (by decide +kernel)
theorem lkX5_254 : Cond.methodLink RX5 254 Lib.Math.min.name ∈ sp_T := sp_inT (List.mem_of_getElem? (i := 726) (by decide +kernel)) (by decide +kernel)
theorem aw_mmax {x y : Int} {ix : Nat} (hd : decode M.2.1 pc = .ok (.invokestatic ix, 3)) (hw : Cond.methodLink M.1.cls ix Lib.Math.max.name ∈ sp_T) (hr : (-2147483648 ≤ x ∧ x < 2147483648) ∧ (-2147483648 ≤ y ∧ y < 2147483648)) (hc : Nat.ble (st.map (fun v => if sp_c1 v = true then 1 else 2)).sum 8 = true) (k : sp_AW M (d + 1) (pc + 3) L (v_i (if x < y then y else x) :: st) g Q) : sp_AW M (d + 1) pc L (v_i y :: v_i x :: st) g Q := by
  intro l D cA ad p e s m args below meth c C H locs ls hP hD hS hl
  have K := k l D cA ad p e s m args below meth c C H locs ls hP hD hS hl
  refine va_mmax C.1 C.2.1 (C.2.2.1.trans hl.1.symm) C.2.2.2.2.2.1 (C.2.2.2.2.2.2.1 _ (List.mem_cons_of_mem _ hw)) (C.2.2.2.2.2.2.1 _ (List.mem_cons_of_mem _ sp_mx1)) (C.2.2.2.2.2.2.1 _ (List.mem_cons_of_mem _ sp_mi)) (C.2.2.2.2.2.2.1 _ (List.mem_cons_of_mem _ sp_mx2)) (by simp only [sp_rm]; omega) (by have := sp_cat (ad := ad) (Nat.le_of_ble_eq_true hc); simp only [sp_rm]; omega) (Nat.le_refl _) (Nat.le_refl _) hd ?_
  have e : (if Int32.ofInt x < Int32.ofInt y then Int32.ofInt y else Int32.ofInt x) = Int32.ofInt (if x < y then y else x) := by
    by_cases h : x < y
    · rw [if_pos h, if_pos ((sp_lt (by omega)).mpr h)]
    · rw [if_neg h, if_neg (fun q => h ((sp_lt (by omega)).mp q))]
  rw [e]
  exact K
theorem aw_mmin {x y : Int} {ix : Nat} (hd : decode M.2.1 pc = .ok (.invokestatic ix, 3)) (hw : Cond.methodLink M.1.cls ix Lib.Math.min.name ∈ sp_T) (hr : (-2147483648 ≤ x ∧ x < 2147483648) ∧ (-2147483648 ≤ y ∧ y < 2147483648)) (hc : Nat.ble (st.map (fun v => if sp_c1 v = true then 1 else 2)).sum 8 = true) (k : sp_AW M (d + 1) (pc + 3) L (v_i (if y < x then y else x) :: st) g Q) : sp_AW M (d + 1) pc L (v_i y :: v_i x :: st) g Q := by
  intro l D cA ad p e s m args below meth c C H locs ls hP hD hS hl
  have K := k l D cA ad p e s m args below meth c C H locs ls hP hD hS hl
  refine va_mmin C.1 C.2.1 (C.2.2.1.trans hl.1.symm) C.2.2.2.2.2.1 (C.2.2.2.2.2.2.1 _ (List.mem_cons_of_mem _ hw)) (C.2.2.2.2.2.2.1 _ (List.mem_cons_of_mem _ sp_mn1)) (C.2.2.2.2.2.2.1 _ (List.mem_cons_of_mem _ sp_mi)) (C.2.2.2.2.2.2.1 _ (List.mem_cons_of_mem _ sp_mn2)) (by simp only [sp_rm]; omega) (by have := sp_cat (ad := ad) (Nat.le_of_ble_eq_true hc); simp only [sp_rm]; omega) (Nat.le_refl _) (Nat.le_refl _) hd ?_
  have e : (if Int32.ofInt y < Int32.ofInt x then Int32.ofInt y else Int32.ofInt x) = Int32.ofInt (if y < x then y else x) := by
    by_cases h : y < x
    · rw [if_pos h, if_pos ((sp_lt (by omega)).mpr h)]
    · rw [if_neg h, if_neg (fun q => h ((sp_lt (by omega)).mp q))]
  rw [e]
  exact K
theorem sp_WsetG {ad : Nat → Nat} {cA : Nat → ClassId} {g g2 : sp_G} {o : Nat} {s : sp_S} (h : sp_sh[o]? = some s) (hg : ∀ p, p ≠ o → ∀ j, g2 p j = g p j) : sp_W ad cA g2 = (sp_W ad cA g).set o (ad o, sp_ce ad cA g2 o s) := by
  have hce : ∀ (p : Nat) (t : sp_S), p ≠ o → sp_ce ad cA g2 p t = sp_ce ad cA g p t := by
    intro p t hp
    have e2 : sp_fv ad g2 p = sp_fv ad g p := by
      funext k f
      cases f with
      | none => simp [sp_fv, hg p hp]
      | some r => rfl
    match t with
    | .inl (ci, fl) => simp [sp_ce, e2]
    | .inr (k, n, none) => simp [sp_ce, hg p hp]
    | .inr (k, n, some f) => rfl
  apply List.ext_getElem?
  intro j
  by_cases hj : j = o
  · subst hj
    rw [sp_Wg _ h, List.getElem?_set_self]
    have := sp_Wg (ad := ad) (cA := cA) g h
    exact (List.getElem?_eq_some_iff.mp this).1
  · rw [List.getElem?_set_ne (fun e => hj e.symm)]
    simp only [sp_W, List.getElem?_mapIdx]
    cases hs : sp_sh[j]? with
    | none => simp
    | some t => simp [hce j t hj]
/-- row q becomes as row o, n places from 0 on -/
def sp_cp (g : sp_G) (o q : Nat) (n : Int) : sp_G := fun p j => if p = q then (if 0 ≤ j ∧ j < n then g o j else g p j) else g p j
theorem aw_copy {o q n0 n1 ix : Nat} {n : Int} (hd : decode M.2.1 pc = .ok (.invokestatic ix, 3)) (hw : Cond.methodLink M.1.cls ix arraycopyName ∈ sp_T) (ho : sp_sh[o]? = some (.inr (0, n0, none))) (hq : sp_sh[q]? = some (.inr (0, n1, none))) (hn : 0 ≤ n ∧ n ≤ n0 ∧ n ≤ n1) (hc : Nat.ble (st.map (fun v => if sp_c1 v = true then 1 else 2)).sum 8 = true) (k : sp_AW M (d + 1) (pc + 3) L st (sp_cp g o q n) Q) : sp_AW M (d + 1) pc L (v_i n :: v_i 0 :: v_r q :: v_i 0 :: v_r o :: st) g Q := by
  intro l D cA ad p e s m args below meth c C H locs ls hP hD hS hl
  have hb0 := sp_nlt ho _ _ _ rfl
  have hb1 := sp_nlt hq _ _ _ rfl
  have hcn : (Int32.ofInt n).toNatClampNeg = n.toNat := by rw [← Int32.toNat_toInt, sp_t (by omega)]
  have hc0 : (Int32.ofInt 0).toNatClampNeg = 0 := rfl
  have hnn : ¬ Int32.ofInt n < 0 := fun h => absurd ((sp_lt (x := n) (y := 0) (by omega)).mp h) (by omega)
  have hloc : ((st.map (sp_cv ad)).map fun v => v.category).sum + (nativeFrameWords "java/lang/System" "arraycopy" 5 + 11) ≤ (sp_rm (d + 1)).locals := by
    have h8 := sp_cat (ad := ad) (Nat.le_of_ble_eq_true hc)
    have e9 : nativeFrameWords "java/lang/System" "arraycopy" 5 ≤ 19 := by decide +kernel
    simp only [sp_rm]
    omega
  refine va_copyi (D := D) (sp := Int32.ofInt 0) (dp := Int32.ofInt 0) (n := Int32.ofInt n) C.1 C.2.1 (C.2.2.1.trans hl.1.symm) C.2.2.2.2.2.1 (C.2.2.2.2.2.2.1 _ (List.mem_cons_of_mem _ hw)) (C.2.2.2.2.2.2.1 _ (List.mem_cons_of_mem _ sp_ac2)) (C.2.2.2.2.2.2.1 _ (List.mem_cons_of_mem _ sp_ac1)) (C.2.2.2.2.2.2.1 _ (List.mem_cons_of_mem _ sp_ac3)) C.2.2.2.2.2.2.2.1 hP hD hS o q 0 0 (ty := .int) (sp_Wg g ho) (sp_Wg g hq) rfl rfl rfl (by decide) (by decide) hnn (by rw [hc0, hcn]; omega) (by rw [hc0, hcn]; omega) (fun i _ => rfl) (by simp only [sp_rm]; omega) hloc hd ?_
  intro H1 locs1 hP1 hD1 hS1
  have ee : (sp_W ad cA g).set q (ad q, .inl (cA 0, n1, .inl (va_cpy (fun j => Int32.ofInt (g o j)) (fun j => Int32.ofInt (g q j)) (Int32.ofInt 0).toNatClampNeg (Int32.ofInt 0).toNatClampNeg (Int32.ofInt n).toNatClampNeg))) = sp_W ad cA (sp_cp g o q n) := by
    rw [sp_WsetG (g := g) (g2 := sp_cp g o q n) hq (fun p hp j => by simp [sp_cp, hp])]
    congr 2
    simp only [sp_ce]
    congr 3
    apply congrArg
    funext j
    rw [hc0, hcn]
    simp only [va_cpy, sp_cp, if_true]
    by_cases hj : j < n.toNat
    · rw [if_pos (by omega), if_pos (by omega)]
      congr 2
      omega
    · rw [if_neg (by omega), if_neg (by omega)]
  rw [ee] at hP1 hD1
  exact k l D cA ad p e s m args below meth c C H1 locs1 ls hP1 hD1 hS1 hl
end CALLS
