abbrev mJ6_bitCount : sp_M := (yJ6_bitCount_0f7a4, cJ6_bitCount_0f7a4, 1, some .int)
theorem okJ6_bitCount : sp_okS mJ6_bitCount 1 := ⟨sp_inT (List.mem_of_getElem? (i := 558) (by decide +kernel)) (by decide +kernel), sp_inT (List.mem_of_getElem? (i := 73) (by decide +kernel)) (by decide +kernel), sp_inT (List.mem_of_getElem? (i := 557) (by decide +kernel)) (by decide +kernel), ⟨by decide +kernel, by decide +kernel⟩, by decide +kernel, by decide⟩
theorem lkX5_165 : Cond.methodLink RX5 165 yJ6_bitCount_0f7a4 ∈ sp_T := sp_inT (List.mem_of_getElem? (i := 556) (by decide +kernel)) (by decide +kernel)
def sp_ushr (x y : Int) : Int := ((Int32.ofInt x).toUInt32 >>> ((Int32.ofInt y).toUInt32 &&& Int32.toUInt32 31)).toInt32.toInt
theorem kcJ6_265 : Cond.constant RJ6 265 (Int32.ofInt 1431655765) ∈ sp_T := sp_inT (List.mem_of_getElem? (i := 559) (by decide +kernel)) (by decide +kernel)
theorem kcJ6_266 : Cond.constant RJ6 266 (Int32.ofInt 858993459) ∈ sp_T := sp_inT (List.mem_of_getElem? (i := 560) (by decide +kernel)) (by decide +kernel)
theorem kcJ6_267 : Cond.constant RJ6 267 (Int32.ofInt 252645135) ∈ sp_T := sp_inT (List.mem_of_getElem? (i := 561) (by decide +kernel)) (by decide +kernel)
section BITC
variable {M : sp_M} {d pc : Nat} {L L2 : List (Option sp_V)} {st : List sp_V} {g : sp_G} {Q : sp_P}
theorem aw_iushr {x y : Int} (hd : decode M.2.1 pc = .ok (.iushr, 1)) (k : sp_AW M d (pc + 1) L (v_i (sp_ushr x y) :: st) g Q) : sp_AW M d pc L (v_i y :: v_i x :: st) g Q := by
  intro l D cA ad p e s m args below meth c C H locs ls hP hD hS hl
  have K := k l D cA ad p e s m args below meth c C H locs ls hP hD hS hl
  refine lv_iushr (v := Int32.ofInt (sp_ushr x y)) C.1 C.2.1 hd (by simp only [sp_ushr, Int32.ofInt_toInt]) K
theorem aw_ldcw {n : Int} {ix : Nat} (hd : decode M.2.1 pc = .ok (.ldc_w ix, 3)) (hw : Cond.constant M.1.cls ix (Int32.ofInt n) ∈ sp_T) (k : sp_AW M d (pc + 3) L (v_i n :: st) g Q) : sp_AW M d pc L st g Q := by
  intro l D cA ad p e s m args below meth c C H locs ls hP hD hS hl
  exact lv_ldcw C.1 C.2.1 C.2.2.2.2.2.1 (C.2.2.2.2.2.2.1 _ (List.mem_cons_of_mem _ hw)) hd (k l D cA ad p e s m args below meth c C H locs ls hP hD hS hl)
end BITC
def bc1 (n : Int) : Int := n - sp_and (sp_ushr n 1) 1431655765
def bc2 (n : Int) : Int := sp_and n 858993459 + sp_and (sp_ushr n 2) 858993459
def bc3 (n : Int) : Int := sp_and (n + sp_ushr n 4) 252645135
def bc4 (n : Int) : Int := n + sp_ushr n 8
def bc5 (n : Int) : Int := n + sp_ushr n 16
def bcA (n : Int) : Int := sp_and (bc5 (bc4 (bc3 (bc2 (bc1 n))))) 63
theorem bc_all : ∀ n : Nat, n < 16 → bcA n = bt n 0 + bt n 1 + bt n 2 + bt n 3 := by decide +kernel
theorem tJ6_bitCount (d : Nat) {n : Int} {g : sp_G} {Q : sp_P} (hn : 0 ≤ n ∧ n < 16) (hQ : Q (some (v_i (bt n 0 + bt n 1 + bt n 2 + bt n 3))) g) : sp_Met d mJ6_bitCount [v_i n] g Q := by
  refine sp_of (L := [_]) (by decide) (Nat.le_of_ble_eq_true rfl) rfl rfl ?_
  have hb : bcA n = bt n 0 + bt n 1 + bt n 2 + bt n 3 := p_all1 (n := 16) (P := fun n => bcA n = bt n 0 + bt n 1 + bt n 2 + bt n 3) (fun a ha => bc_all a ha) hn.1 hn.2
  rw [← hb] at hQ
  refine aw_iload_n dJ6_bitCount_0f7a4_0 rfl ?_
  refine aw_iload_n dJ6_bitCount_0f7a4_1 rfl ?_
  refine aw_iconst dJ6_bitCount_0f7a4_2 ?_
  refine aw_iushr dJ6_bitCount_0f7a4_3 ?_
  refine aw_ldcw dJ6_bitCount_0f7a4_4 kcJ6_265 ?_
  refine aw_iand dJ6_bitCount_0f7a4_7 ?_
  refine aw_isub dJ6_bitCount_0f7a4_8 ?_
  refine aw_istore_n (L2 := [_]) dJ6_bitCount_0f7a4_9 (by decide) rfl rfl ?_
  refine aw_iload_n dJ6_bitCount_0f7a4_10 rfl ?_
  refine aw_ldcw dJ6_bitCount_0f7a4_11 kcJ6_266 ?_
  refine aw_iand dJ6_bitCount_0f7a4_14 ?_
  refine aw_iload_n dJ6_bitCount_0f7a4_15 rfl ?_
  refine aw_iconst dJ6_bitCount_0f7a4_16 ?_
  refine aw_iushr dJ6_bitCount_0f7a4_17 ?_
  refine aw_ldcw dJ6_bitCount_0f7a4_18 kcJ6_266 ?_
  refine aw_iand dJ6_bitCount_0f7a4_21 ?_
  refine aw_iadd dJ6_bitCount_0f7a4_22 ?_
  refine aw_istore_n (L2 := [_]) dJ6_bitCount_0f7a4_23 (by decide) rfl rfl ?_
  refine aw_iload_n dJ6_bitCount_0f7a4_24 rfl ?_
  refine aw_iload_n dJ6_bitCount_0f7a4_25 rfl ?_
  refine aw_iconst dJ6_bitCount_0f7a4_26 ?_
  refine aw_iushr dJ6_bitCount_0f7a4_27 ?_
  refine aw_iadd dJ6_bitCount_0f7a4_28 ?_
  refine aw_ldcw dJ6_bitCount_0f7a4_29 kcJ6_267 ?_
  refine aw_iand dJ6_bitCount_0f7a4_32 ?_
  refine aw_istore_n (L2 := [_]) dJ6_bitCount_0f7a4_33 (by decide) rfl rfl ?_
  refine aw_iload_n dJ6_bitCount_0f7a4_34 rfl ?_
  refine aw_iload_n dJ6_bitCount_0f7a4_35 rfl ?_
  refine aw_bipush dJ6_bitCount_0f7a4_36 (by decide) ?_
  refine aw_iushr dJ6_bitCount_0f7a4_38 ?_
  refine aw_iadd dJ6_bitCount_0f7a4_39 ?_
  refine aw_istore_n (L2 := [_]) dJ6_bitCount_0f7a4_40 (by decide) rfl rfl ?_
  refine aw_iload_n dJ6_bitCount_0f7a4_41 rfl ?_
  refine aw_iload_n dJ6_bitCount_0f7a4_42 rfl ?_
  refine aw_bipush dJ6_bitCount_0f7a4_43 (by decide) ?_
  refine aw_iushr dJ6_bitCount_0f7a4_45 ?_
  refine aw_iadd dJ6_bitCount_0f7a4_46 ?_
  refine aw_istore_n (L2 := [_]) dJ6_bitCount_0f7a4_47 (by decide) rfl rfl ?_
  refine aw_iload_n dJ6_bitCount_0f7a4_48 rfl ?_
  refine aw_bipush dJ6_bitCount_0f7a4_49 (by decide) ?_
  refine aw_iand dJ6_bitCount_0f7a4_51 ?_
  exact aw_iret dJ6_bitCount_0f7a4_52 rfl hQ
/-! THE STATE that the document speaks of: town, past towns, how many, numbers (columns, depth, rule, refused three times), text, its length -/
abbrev zT : Type := (Int → Int) × (Int → Int) × (Int → Int) × Int
abbrev zZ : Type := zT × (Int → zT) × Int × (Int → Int) × (Int → Int) × Int
def zt (Z : zZ) : zT := Z.1
def zh (Z : zZ) : Int → zT := Z.2.1
def zc (Z : zZ) : Int := Z.2.2.1
def zn (Z : zZ) : Int → Int := Z.2.2.2.1
def zx (Z : zZ) : Int → Int := Z.2.2.2.2.1
def zl (Z : zZ) : Int := Z.2.2.2.2.2
def zp (T : zT) : Int → Int := T.1
def zd (T : zT) : Int → Int := T.2.1
def zm (T : zT) : Int → Int := T.2.2.1
def zo (T : zT) : Int := T.2.2.2
def tVt (T : zT) : Prop := tV (zp T) (zd T) (zm T) (zo T)
def zV (B : Int) (Z : zZ) : Prop := tVt (zt Z) ∧ (0 ≤ zc Z ∧ zc Z ≤ 8) ∧ (∀ j, 0 ≤ j → j < zc Z → tVt (zh Z j)) ∧ ((1 ≤ zn Z 0 ∧ zn Z 0 ≤ 3) ∧ (4 ≤ zn Z 1 ∧ zn Z 1 ≤ 30) ∧ (0 ≤ zn Z 2 ∧ zn Z 2 ≤ 3)) ∧ ((0 ≤ zn Z 3 ∧ zn Z 3 ≤ B) ∧ (0 ≤ zn Z 4 ∧ zn Z 4 ≤ B) ∧ (0 ≤ zn Z 5 ∧ zn Z 5 ≤ B)) ∧ (0 ≤ zl Z ∧ zl Z ≤ 120) ∧ ∀ i, 0 ≤ i → i < zl Z → 0 ≤ zx Z i ∧ zx Z i ≤ 127
/-- refused (number k) -/
def zr (k : Int) (Z : zZ) : zZ := (zt Z, zh Z, zc Z, up1 (zn Z) k (zn Z k + 1), zx Z, zl Z)
/-- kept for undoing -/
def zk (Z : zZ) : zZ := (zt Z, fun j => if zc Z < 8 then (if j = zc Z then zt Z else zh Z j) else (if j = 7 then zt Z else zh Z (j + 1)), if zc Z < 8 then zc Z + 1 else 8, zn Z, zx Z, zl Z)
/-- another town -/
def zw (T : zT) (Z : zZ) : zZ := (T, zh Z, zc Z, zn Z, zx Z, zl Z)
theorem zr_V {B k : Int} {Z : zZ} (h : zV B Z) (hk : 3 ≤ k ∧ k ≤ 5) : zV (B + 1) (zr k Z) := by
  obtain ⟨h1, h2, h3, h4, h5, h6, h7⟩ := h
  refine ⟨h1, h2, h3, ?_, ?_, h6, h7⟩
  · show (1 ≤ up1 (zn Z) k (zn Z k + 1) 0 ∧ up1 (zn Z) k (zn Z k + 1) 0 ≤ 3) ∧ (4 ≤ up1 (zn Z) k (zn Z k + 1) 1 ∧ up1 (zn Z) k (zn Z k + 1) 1 ≤ 30) ∧ (0 ≤ up1 (zn Z) k (zn Z k + 1) 2 ∧ up1 (zn Z) k (zn Z k + 1) 2 ≤ 3)
    rw [up1_n _ _ (by omega), up1_n _ _ (by omega), up1_n _ _ (by omega)]
    exact h4
  · show (0 ≤ up1 (zn Z) k (zn Z k + 1) 3 ∧ up1 (zn Z) k (zn Z k + 1) 3 ≤ B + 1) ∧ (0 ≤ up1 (zn Z) k (zn Z k + 1) 4 ∧ up1 (zn Z) k (zn Z k + 1) 4 ≤ B + 1) ∧ (0 ≤ up1 (zn Z) k (zn Z k + 1) 5 ∧ up1 (zn Z) k (zn Z k + 1) 5 ≤ B + 1)
    rcases (show k = 3 ∨ k = 4 ∨ k = 5 by omega) with e | e | e <;> subst e <;> simp only [up1] <;> simp <;> omega
theorem zV_m {B B2 : Int} {Z : zZ} (h : zV B Z) (hb : B ≤ B2) : zV B2 Z := by
  obtain ⟨h1, h2, h3, h4, h5, h6, h7⟩ := h
  exact ⟨h1, h2, h3, h4, ⟨⟨h5.1.1, by omega⟩, ⟨h5.2.1.1, by omega⟩, ⟨h5.2.2.1, by omega⟩⟩, h6, h7⟩
theorem zk_V {B : Int} {Z : zZ} (h : zV B Z) : zV B (zk Z) := by
  obtain ⟨h1, h2, h3, h4, h5, h6, h7⟩ := h
  refine ⟨h1, ?_, ?_, h4, h5, h6, h7⟩
  · show 0 ≤ (if zc Z < 8 then zc Z + 1 else 8) ∧ (if zc Z < 8 then zc Z + 1 else 8) ≤ 8
    split <;> omega
  · intro j j0 j1
    have j1 : j < (if zc Z < 8 then zc Z + 1 else 8) := j1
    show tVt (if zc Z < 8 then (if j = zc Z then zt Z else zh Z j) else (if j = 7 then zt Z else zh Z (j + 1)))
    by_cases q : zc Z < 8
    · rw [if_pos q] at j1 ⊢
      by_cases r : j = zc Z
      · rw [if_pos r]; exact h1
      · rw [if_neg r]; exact h3 j j0 (by omega)
    · rw [if_neg q] at j1 ⊢
      by_cases r : j = 7
      · rw [if_pos r]; exact h1
      · rw [if_neg r]; exact h3 (j + 1) (by omega) (by omega)
theorem zw_V {B : Int} {Z : zZ} {T : zT} (h : zV B Z) (hT : tVt T) : zV B (zw T Z) := ⟨hT, h.2⟩
/-- a town in its rows -/
def tR (g : sp_G) (t : Nat) (T : zT) : Prop := rH g (t + 1) 0 24 (zp T) ∧ rH g (t + 2) 0 96 (zd T) ∧ rH g (t + 3) 0 24 (zm T) ∧ g t 3 = zo T
def cRep (g : sp_G) (Z : zZ) : Prop := tR g 1 (zt Z) ∧ (0 ≤ g 5 1 ∧ g 5 1 < 8) ∧ g 5 2 = zc Z ∧ (∀ j, 0 ≤ j → j < zc Z → tR g (7 + 4 * ((g 5 1 - zc Z + j) % 8).toNat) (zh Z j)) ∧ (g 45 0 = zn Z 0 ∧ g 45 1 = zn Z 1 ∧ g 45 2 = zn Z 2) ∧ (g 0 5 = zn Z 3 ∧ g 0 6 = zn Z 4 ∧ g 0 7 = zn Z 5) ∧ g 49 1 = zl Z ∧ rH g 50 0 (zl Z) (zx Z)
/-- the model's rows are as they were -/
def fMo (g g2 : sp_G) : Prop := ∀ p : Nat, 52 ≤ p → ∀ j : Int, g2 p j = g p j
theorem fMo.rf {g : sp_G} : fMo g g := fun _ _ _ => rfl
theorem fMo.tr {g g2 g3 : sp_G} (h : fMo g g2) (h2 : fMo g2 g3) : fMo g g3 := fun p hp j => (h2 p hp j).trans (h p hp j)
theorem fMo.fr {g g2 : sp_G} {ids : List Nat} (h : sp_fr ids g g2) (hi : ∀ x ∈ ids, x < 52) : fMo g g2 := fun p hp j => h p (fun q => by have := hi p q; omega) j
theorem fMo.up {g g2 : sp_G} {o : Nat} {i x : Int} (h : fMo g g2) (ho : o < 52) : fMo g (sp_up g2 o i x) := fun p hp j => by rw [sp_up_o _ _ _ _ (by omega), h p hp j]
theorem tR.fr {g g2 : sp_G} {t : Nat} {T : zT} {ids : List Nat} (h : tR g t T) (hf : sp_fr ids g g2) (hi : ∀ x ∈ ids, x < t ∨ t + 3 < x) : tR g2 t T := by
  have hn : ∀ k, t ≤ k → k ≤ t + 3 → k ∉ ids := fun k h1 h2 q => by have := hi k q; omega
  exact ⟨h.1.fr hf (hn _ (by omega) (by omega)), h.2.1.fr hf (hn _ (by omega) (by omega)), h.2.2.1.fr hf (hn _ (by omega) (by omega)), by rw [hf t (hn _ (by omega) (by omega))]; exact h.2.2.2⟩
/-- only what is made anew ahead of each use has changed -/
def scF (g g2 : sp_G) : Prop := sp_fr [39, 40, 41, 42, 43, 44, 45, 46, 47, 48, 49, 51] g g2 ∧ g2 45 0 = g 45 0 ∧ g2 45 1 = g 45 1 ∧ g2 45 2 = g 45 2 ∧ g2 49 1 = g 49 1
theorem scF.rf {g : sp_G} : scF g g := ⟨sp_fr.rf, rfl, rfl, rfl, rfl⟩
theorem scF.tr {g g2 g3 : sp_G} (h : scF g g2) (h2 : scF g2 g3) : scF g g3 := ⟨h.1.tr h2.1 (fun _ q => q), h2.2.1.trans h.2.1, h2.2.2.1.trans h.2.2.1, h2.2.2.2.1.trans h.2.2.2.1, h2.2.2.2.2.trans h.2.2.2.2⟩
theorem scF.p {g g2 : sp_G} (h : pFr g g2) : scF g g2 := ⟨h.1.wk (by decide), h.2.1, h.2.2.1, h.2.2.2, h.1 49 (by decide) 1⟩
theorem scF.s {g g2 : sp_G} (h : sp_fr [39, 40, 41, 42] g g2) : scF g g2 := ⟨h.wk (by decide), h 45 (by decide) 0, h 45 (by decide) 1, h 45 (by decide) 2, h 49 (by decide) 1⟩
theorem scF.v {g g2 : sp_G} (h : sp_fr [43, 44] g g2) : scF g g2 := ⟨h.wk (by decide), h 45 (by decide) 0, h 45 (by decide) 1, h 45 (by decide) 2, h 49 (by decide) 1⟩
theorem scF.m {g g2 : sp_G} (h : scF g g2) : fMo g g2 := fMo.fr h.1 (by decide)
theorem cRep.sc {g g2 : sp_G} {Z : zZ} (h : cRep g Z) (hs : scF g g2) : cRep g2 Z := by
  obtain ⟨h1, h2, h3, h4, h5, h6, h7, h8⟩ := h
  have e5 : ∀ j, g2 5 j = g 5 j := fun j => hs.1 5 (by decide) j
  have e0 : ∀ j, g2 0 j = g 0 j := fun j => hs.1 0 (by decide) j
  refine ⟨h1.fr hs.1 (by decide), by rw [e5]; exact h2, by rw [e5]; exact h3, fun j j0 j1 => ?_, ⟨by rw [hs.2.1]; exact h5.1, by rw [hs.2.2.1]; exact h5.2.1, by rw [hs.2.2.2.1]; exact h5.2.2⟩, ⟨by rw [e0]; exact h6.1, by rw [e0]; exact h6.2.1, by rw [e0]; exact h6.2.2⟩, by rw [hs.2.2.2.2]; exact h7, h8.fr hs.1 (by decide)⟩
  rw [e5]
  refine (h4 j j0 j1).fr hs.1 (fun x hx => ?_)
  have : 39 ≤ x := by revert x; decide
  omega
theorem cRep.bad {g : sp_G} {Z : zZ} {k : Int} (h : cRep g Z) (hk : 3 ≤ k ∧ k ≤ 5) : cRep (sp_up g 0 (k + 2) (g 0 (k + 2) + 1)) (zr k Z) := by
  obtain ⟨h1, h2, h3, h4, h5, h6, h7, h8⟩ := h
  have hf : sp_fr [0] g (sp_up g 0 (k + 2) (g 0 (k + 2) + 1)) := sp_fr.rf.up (by decide)
  have e5 : ∀ p j, p ≠ 0 → sp_up g 0 (k + 2) (g 0 (k + 2) + 1) p j = g p j := fun p j hp => sp_up_o _ _ _ _ hp
  refine ⟨h1.fr hf (by decide), by rw [e5 _ _ (by decide)]; exact h2, by rw [e5 _ _ (by decide)]; exact h3, fun j j0 j1 => ?_, ?_, ?_, by rw [e5 _ _ (by decide)]; exact h7, h8.fr hf (by decide)⟩
  · rw [e5 _ _ (by decide)]
    refine (h4 j j0 j1).fr hf (fun x hx => ?_)
    have : x = 0 := by simpa using hx
    omega
  · rw [e5 _ _ (by decide), e5 _ _ (by decide), e5 _ _ (by decide)]
    show g 45 0 = up1 (zn Z) k (zn Z k + 1) 0 ∧ g 45 1 = up1 (zn Z) k (zn Z k + 1) 1 ∧ g 45 2 = up1 (zn Z) k (zn Z k + 1) 2
    rw [up1_n _ _ (by omega), up1_n _ _ (by omega), up1_n _ _ (by omega)]
    exact h5
  · show sp_up g 0 (k + 2) (g 0 (k + 2) + 1) 0 5 = up1 (zn Z) k (zn Z k + 1) 3 ∧ sp_up g 0 (k + 2) (g 0 (k + 2) + 1) 0 6 = up1 (zn Z) k (zn Z k + 1) 4 ∧ sp_up g 0 (k + 2) (g 0 (k + 2) + 1) 0 7 = up1 (zn Z) k (zn Z k + 1) 5
    rcases (show k = 3 ∨ k = 4 ∨ k = 5 by omega) with e | e | e <;> subst e <;> simp only [sp_up, up1] <;> simp [h6.1, h6.2.1, h6.2.2]
theorem cRep.town {g g2 : sp_G} {Z : zZ} {T : zT} (h : cRep g Z) (hf : sp_fr [1, 2, 3, 4] g g2) (hT : tR g2 1 T) : cRep g2 (zw T Z) := by
  obtain ⟨h1, h2, h3, h4, h5, h6, h7, h8⟩ := h
  have e : ∀ p j, p ∉ [1, 2, 3, 4] → g2 p j = g p j := fun p j hp => hf p hp j
  refine ⟨hT, by rw [e 5 1 (by decide)]; exact h2, by rw [e 5 2 (by decide)]; exact h3, fun j j0 j1 => ?_, by rw [e 45 0 (by decide), e 45 1 (by decide), e 45 2 (by decide)]; exact h5, by rw [e 0 5 (by decide), e 0 6 (by decide), e 0 7 (by decide)]; exact h6, by rw [e 49 1 (by decide)]; exact h7, h8.fr hf (by decide)⟩
  rw [e 5 1 (by decide)]
  refine (h4 j j0 j1).fr hf (fun x hx => ?_)
  have : x ≤ 4 := by revert x; decide
  omega
theorem sp_sn_t {g : sp_G} {t q : Nat} {T : zT} (h : tR g q T) : tR (sp_sn g t q) t T := by
  refine ⟨fun i j i0 i1 e => ?_, fun i j i0 i1 e => ?_, fun i j i0 i1 e => ?_, ?_⟩
  · simp only [sp_sn]
    rw [if_neg (by omega), if_pos trivial, if_pos (by omega)]
    exact h.1 i j i0 i1 e
  · simp only [sp_sn]
    rw [if_neg (by omega), if_neg (by omega), if_pos trivial, if_pos (by omega)]
    exact h.2.1 i j i0 i1 e
  · simp only [sp_sn]
    rw [if_neg (by omega), if_neg (by omega), if_neg (by omega), if_pos trivial, if_pos (by omega)]
    exact h.2.2.1 i j i0 i1 e
  · simp only [sp_sn]
    rw [if_pos trivial, if_pos trivial]
    exact h.2.2.2
theorem sp_sn_fr {g : sp_G} {t q : Nat} : sp_fr [t, t + 1, t + 2, t + 3] g (sp_sn g t q) := by
  intro p hp j
  simp only [List.mem_cons, List.not_mem_nil, or_false, not_or] at hp
  simp only [sp_sn]
  rw [if_neg hp.1, if_neg hp.2.1, if_neg hp.2.2.1, if_neg hp.2.2.2]
def kpG (g : sp_G) : sp_G := sp_up (sp_up (sp_sn g (7 + 4 * (g 5 1).toNat) 1) 5 1 ((g 5 1 + 1) % 8)) 5 2 (if g 5 2 < 8 then g 5 2 + 1 else 8)
theorem kp_fr {g : sp_G} {p : Nat} {j : Int} (h : p ≠ 5) (h2 : p < 7 + 4 * (g 5 1).toNat ∨ 7 + 4 * (g 5 1).toNat + 3 < p) : kpG g p j = g p j := by
  unfold kpG
  rw [sp_up_o _ _ _ _ h, sp_up_o _ _ _ _ h]
  exact sp_sn_fr p (by simp; omega) j
theorem cRep.keep {B : Int} {g : sp_G} {Z : zZ} (h : cRep g Z) (hV : zV B Z) : cRep (kpG g) (zk Z) ∧ fMo g (kpG g) ∧ tR (kpG g) (7 + 4 * (g 5 1).toNat) (zt Z) := by
  obtain ⟨h1, h2, h3, h4, h5, h6, h7, h8⟩ := h
  have hc := hV.2.1
  have e1 : kpG g 5 1 = (g 5 1 + 1) % 8 := by unfold kpG; rw [sp_up_i _ _ _ _ (by decide), sp_up_s]
  have e2 : kpG g 5 2 = if g 5 2 < 8 then g 5 2 + 1 else 8 := by unfold kpG; rw [sp_up_s]
  have hslot : tR (kpG g) (7 + 4 * (g 5 1).toNat) (zt Z) := by
    have := sp_sn_t (g := g) (t := 7 + 4 * (g 5 1).toNat) h1
    unfold kpG
    exact (this.fr (sp_fr.rf.up (o := 5) (ids := [5]) (by decide)) (by simp; omega)).fr (sp_fr.rf.up (o := 5) (ids := [5]) (by decide)) (by simp; omega)
  have hoth : ∀ (t : Nat) (T : zT), t ≠ 5 → t + 1 ≠ 5 → t + 2 ≠ 5 → t + 3 ≠ 5 → (t + 3 < 7 + 4 * (g 5 1).toNat ∨ 7 + 4 * (g 5 1).toNat + 3 < t) → tR g t T → tR (kpG g) t T := by
    intro t T t0 t1 t2 t3 ht hR
    refine ⟨fun i j i0 i1 e => ?_, fun i j i0 i1 e => ?_, fun i j i0 i1 e => ?_, ?_⟩
    · rw [kp_fr t1 (by omega)]; exact hR.1 i j i0 i1 e
    · rw [kp_fr t2 (by omega)]; exact hR.2.1 i j i0 i1 e
    · rw [kp_fr t3 (by omega)]; exact hR.2.2.1 i j i0 i1 e
    · rw [kp_fr t0 (by omega)]; exact hR.2.2.2
  refine ⟨⟨hoth 1 _ (by decide) (by decide) (by decide) (by decide) (by omega) h1, by rw [e1]; omega, by rw [e2, h3]; rfl, fun j j0 j1 => ?_, ?_, ?_, ?_, fun i j i0 i1 e => ?_⟩, fun p hp j => kp_fr (by omega) (by omega), hslot⟩
  · rw [e1]
    have j1 : j < (if zc Z < 8 then zc Z + 1 else 8) := j1
    show tR (kpG g) (7 + 4 * (((g 5 1 + 1) % 8 - (if zc Z < 8 then zc Z + 1 else 8) + j) % 8).toNat) (if zc Z < 8 then (if j = zc Z then zt Z else zh Z j) else (if j = 7 then zt Z else zh Z (j + 1)))
    by_cases q : zc Z < 8
    · rw [if_pos q] at j1
      rw [if_pos q, if_pos q]
      by_cases r : j = zc Z
      · rw [if_pos r, show ((g 5 1 + 1) % 8 - (zc Z + 1) + j) % 8 = g 5 1 by omega]
        exact hslot
      · rw [if_neg r, show ((g 5 1 + 1) % 8 - (zc Z + 1) + j) % 8 = (g 5 1 - zc Z + j) % 8 by omega]
        exact hoth _ _ (by omega) (by omega) (by omega) (by omega) (by omega) (h4 j j0 (by omega))
    · rw [if_neg q] at j1
      rw [if_neg q, if_neg q]
      by_cases r : j = 7
      · rw [if_pos r, show ((g 5 1 + 1) % 8 - 8 + j) % 8 = g 5 1 by omega]
        exact hslot
      · rw [if_neg r, show ((g 5 1 + 1) % 8 - 8 + j) % 8 = (g 5 1 - zc Z + (j + 1)) % 8 by omega]
        exact hoth _ _ (by omega) (by omega) (by omega) (by omega) (by omega) (h4 (j + 1) (by omega) (by omega))
  · rw [kp_fr (by decide) (by omega), kp_fr (by decide) (by omega), kp_fr (by decide) (by omega)]; exact h5
  · rw [kp_fr (by decide) (by omega), kp_fr (by decide) (by omega), kp_fr (by decide) (by omega)]; exact h6
  · rw [kp_fr (by decide) (by omega)]; exact h7
  · rw [kp_fr (by decide) (by omega)]; exact h8 i j i0 i1 e
theorem cRep.back {B : Int} {g : sp_G} {Z : zZ} (h : cRep g Z) (hV : zV B Z) (h0 : 0 < zc Z) : cRep (sp_sn (sp_up (sp_up g 5 1 ((g 5 1 + 7) % 8)) 5 2 (g 5 2 - 1)) 1 (7 + 4 * ((g 5 1 + 7) % 8).toNat)) (zh Z (zc Z - 1), zh Z, zc Z - 1, zn Z, zx Z, zl Z) ∧ fMo g (sp_sn (sp_up (sp_up g 5 1 ((g 5 1 + 7) % 8)) 5 2 (g 5 2 - 1)) 1 (7 + 4 * ((g 5 1 + 7) % 8).toNat)) := by
  obtain ⟨h1, h2, h3, h4, h5, h6, h7, h8⟩ := h
  have hc := hV.2.1
  generalize hg1 : sp_up (sp_up g 5 1 ((g 5 1 + 7) % 8)) 5 2 (g 5 2 - 1) = g1
  have hf1 : sp_fr [5] g g1 := by rw [← hg1]; exact (sp_fr.rf.up (by decide)).up (by decide)
  have a1 : g1 5 1 = (g 5 1 + 7) % 8 := by rw [← hg1, sp_up_i _ _ _ _ (by decide), sp_up_s]
  have a2 : g1 5 2 = g 5 2 - 1 := by rw [← hg1, sp_up_s]
  have hf2 : sp_fr [1, 2, 3, 4] g1 (sp_sn g1 1 (7 + 4 * ((g 5 1 + 7) % 8).toNat)) := sp_sn_fr
  have hf : ∀ p j, p ∉ [1, 2, 3, 4, 5] → sp_sn g1 1 (7 + 4 * ((g 5 1 + 7) % 8).toNat) p j = g p j := fun p j hp => by
    rw [hf2 p (fun q => hp (by revert q; simp; omega)) j, hf1 p (fun q => hp (by revert q; simp; omega)) j]
  have b1 : sp_sn g1 1 (7 + 4 * ((g 5 1 + 7) % 8).toNat) 5 1 = (g 5 1 + 7) % 8 := by rw [hf2 5 (by decide), a1]
  have b2 : sp_sn g1 1 (7 + 4 * ((g 5 1 + 7) % 8).toNat) 5 2 = g 5 2 - 1 := by rw [hf2 5 (by decide), a2]
  refine ⟨⟨?_, by rw [b1]; omega, by rw [b2, h3]; rfl, fun j j0 j1 => ?_, ?_, ?_, ?_, fun i j i0 i1 e => ?_⟩, fun p hp j => hf p j (by simp; omega)⟩
  · refine sp_sn_t ?_
    have := h4 (zc Z - 1) (by omega) (by omega)
    rw [show (g 5 1 - zc Z + (zc Z - 1)) % 8 = (g 5 1 + 7) % 8 by omega] at this
    exact this.fr hf1 (by simp; omega)
  · have j1 : j < zc Z - 1 := j1
    rw [b1]
    show tR _ (7 + 4 * (((g 5 1 + 7) % 8 - (zc Z - 1) + j) % 8).toNat) (zh Z j)
    rw [show ((g 5 1 + 7) % 8 - (zc Z - 1) + j) % 8 = (g 5 1 - zc Z + j) % 8 by omega]
    refine ((h4 j j0 (by omega)).fr hf1 (by simp; omega)).fr hf2 (fun x hx => ?_)
    have : x ≤ 4 := by revert x; decide
    omega
  · rw [hf _ _ (by decide), hf _ _ (by decide), hf _ _ (by decide)]; exact h5
  · rw [hf _ _ (by decide), hf _ _ (by decide), hf _ _ (by decide)]; exact h6
  · rw [hf _ _ (by decide)]; exact h7
  · rw [hf _ _ (by decide)]; exact h8 i j i0 i1 e
