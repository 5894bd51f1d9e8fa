/-! THE REFERENCE: its town is one row of 145 numbers -/
def flt (T : zT) : Int → Int := fun k => if k < 24 then zp T k else if k < 120 then zd T (k - 24) else if k < 144 then zm T (k - 120) else zo T
def wds : Int → Int := fun i => ([111, 110, 32, 111, 102, 102, 32, 112, 117, 116, 32, 110, 97, 109, 101, 115, 32, 118, 111, 116, 101, 114, 115, 32] : List Int).getD i.toNat 0
theorem flt_in {g : sp_G} {row : Nat} {b : Int} {T : zT} (h : rH g row b 145 (flt T)) : rH g row b 24 (zp T) ∧ rH g row (b + 24) 96 (zd T) ∧ rH g row (b + 120) 24 (zm T) ∧ g row (b + 144) = zo T := by
  refine ⟨fun i j i0 i1 e => ?_, fun i j i0 i1 e => ?_, fun i j i0 i1 e => ?_, ?_⟩
  · rw [h i j i0 (by omega) e]
    unfold flt
    rw [if_pos i1]
  · rw [h (24 + i) j (by omega) (by omega) (by omega)]
    unfold flt
    rw [if_neg (by omega), if_pos (by omega), show 24 + i - 24 = i by omega]
  · rw [h (120 + i) j (by omega) (by omega) (by omega)]
    unfold flt
    rw [if_neg (by omega), if_neg (by omega), if_pos (by omega), show 120 + i - 120 = i by omega]
  · rw [h 144 (b + 144) (by omega) (by omega) (by omega)]
    unfold flt
    rw [if_neg (by omega), if_neg (by omega), if_neg (by omega)]
theorem flt_of {g : sp_G} {row : Nat} {b : Int} {T : zT} (h1 : rH g row b 24 (zp T)) (h2 : rH g row (b + 24) 96 (zd T)) (h3 : rH g row (b + 120) 24 (zm T)) (h4 : g row (b + 144) = zo T) : rH g row b 145 (flt T) := by
  intro i j i0 i1 e
  unfold flt
  by_cases q1 : i < 24
  · rw [if_pos q1]; exact h1 i j i0 q1 e
  · rw [if_neg q1]
    by_cases q2 : i < 120
    · rw [if_pos q2]; exact h2 (i - 24) j (by omega) (by omega) (by omega)
    · rw [if_neg q2]
      by_cases q3 : i < 144
      · rw [if_pos q3]; exact h3 (i - 120) j (by omega) (by omega) (by omega)
      · rw [if_neg q3, show j = b + 144 by omega]; exact h4
def mRep (g : sp_G) (Z : zZ) : Prop := rH g 53 0 145 (flt (zt Z)) ∧ g 52 2 = zc Z ∧ (∀ j, 0 ≤ j → j < zc Z → rH g 54 (145 * j) 145 (flt (zh Z j))) ∧ (g 55 0 = zn Z 0 ∧ g 55 1 = zn Z 1 ∧ g 55 2 = zn Z 2) ∧ (g 56 0 = zn Z 3 ∧ g 56 1 = zn Z 4 ∧ g 56 2 = zn Z 5) ∧ g 52 6 = zl Z ∧ rH g 57 0 (zl Z) (zx Z) ∧ rH g 59 0 24 wds
/-- the component's rows are as they were -/
def fCo (g g2 : sp_G) : Prop := ∀ p : Nat, p < 52 → ∀ j : Int, g2 p j = g p j
theorem fCo.rf {g : sp_G} : fCo g g := fun _ _ _ => rfl
theorem fCo.tr {g g2 g3 : sp_G} (h : fCo g g2) (h2 : fCo g2 g3) : fCo g g3 := fun p hp j => (h2 p hp j).trans (h p hp j)
theorem fCo.fr {g g2 : sp_G} {ids : List Nat} (h : sp_fr ids g g2) (hi : ∀ x ∈ ids, 52 ≤ x) : fCo g g2 := fun p hp j => h p (fun q => by have := hi p q; omega) j
theorem fCo.up {g g2 : sp_G} {o : Nat} {i x : Int} (h : fCo g g2) (ho : 52 ≤ o) : fCo g (sp_up g2 o i x) := fun p hp j => by rw [sp_up_o _ _ _ _ (by omega), h p hp j]
theorem mRep.mo {g g2 : sp_G} {Z : zZ} (h : mRep g Z) (hf : fMo g g2) : mRep g2 Z := by
  obtain ⟨h1, h2, h3, h4, h5, h6, h7, h8⟩ := h
  have e : ∀ p j, 52 ≤ p → g2 p j = g p j := fun p j hp => hf p hp j
  refine ⟨fun i j i0 i1 k => ?_, by rw [e _ _ (by decide)]; exact h2, fun j j0 j1 i k i0 i1 q => ?_, by rw [e _ _ (by decide), e _ _ (by decide), e _ _ (by decide)]; exact h4, by rw [e _ _ (by decide), e _ _ (by decide), e _ _ (by decide)]; exact h5, by rw [e _ _ (by decide)]; exact h6, fun i j i0 i1 k => ?_, fun i j i0 i1 k => ?_⟩
  · rw [e _ _ (by decide)]; exact h1 i j i0 i1 k
  · rw [e _ _ (by decide)]; exact h3 j j0 j1 i k i0 i1 q
  · rw [e _ _ (by decide)]; exact h7 i j i0 i1 k
  · rw [e _ _ (by decide)]; exact h8 i j i0 i1 k
theorem cRep.co {g g2 : sp_G} {Z : zZ} (h : cRep g Z) (hf : fCo g g2) : cRep g2 Z := by
  obtain ⟨h1, h2, h3, h4, h5, h6, h7, h8⟩ := h
  have e : ∀ p j, p < 52 → g2 p j = g p j := fun p j hp => hf p hp j
  have et : ∀ (t : Nat) (T : zT), t + 3 < 52 → tR g t T → tR g2 t T := by
    intro t T ht hT
    refine ⟨fun i j i0 i1 k => ?_, fun i j i0 i1 k => ?_, fun i j i0 i1 k => ?_, ?_⟩
    · rw [e _ _ (by omega)]; exact hT.1 i j i0 i1 k
    · rw [e _ _ (by omega)]; exact hT.2.1 i j i0 i1 k
    · rw [e _ _ (by omega)]; exact hT.2.2.1 i j i0 i1 k
    · rw [e _ _ (by omega)]; exact hT.2.2.2
  refine ⟨et 1 _ (by decide) h1, by rw [e _ _ (by decide)]; exact h2, by rw [e _ _ (by decide)]; exact h3, fun j j0 j1 => ?_, by rw [e _ _ (by decide), e _ _ (by decide), e _ _ (by decide)]; exact h5, by rw [e _ _ (by decide), e _ _ (by decide), e _ _ (by decide)]; exact h6, by rw [e _ _ (by decide)]; exact h7, fun i j i0 i1 k => ?_⟩
  · rw [e _ _ (by decide)]
    exact et _ _ (by omega) (h4 j j0 j1)
  · rw [e _ _ (by decide)]; exact h8 i j i0 i1 k
/-- only what is made anew ahead of each use has changed -/
def scM (g g2 : sp_G) : Prop := sp_fr [52, 58, 60, 61, 62, 63, 64, 65, 66] g g2 ∧ g2 52 2 = g 52 2 ∧ g2 52 6 = g 52 6
theorem scM.rf {g : sp_G} : scM g g := ⟨sp_fr.rf, rfl, rfl⟩
theorem scM.tr {g g2 g3 : sp_G} (h : scM g g2) (h2 : scM g2 g3) : scM g g3 := ⟨h.1.tr h2.1 (fun _ q => q), h2.2.1.trans h.2.1, h2.2.2.trans h.2.2⟩
theorem scM.up {g g2 : sp_G} {o : Nat} {i x : Int} (h : scM g g2) (ho : o ∈ [52, 58, 60, 61, 62, 63, 64, 65, 66]) (hi : o = 52 → i ≠ 2 ∧ i ≠ 6) : scM g (sp_up g2 o i x) := by
  refine ⟨h.1.up ho, ?_, ?_⟩
  all_goals
    by_cases e : (52 : Nat) = o
    · subst e
      have := hi rfl
      rw [sp_up_i _ _ _ _ (by omega)]
      first | exact h.2.1 | exact h.2.2
    · rw [sp_up_o _ _ _ _ e]
      first | exact h.2.1 | exact h.2.2
theorem scM.c {g g2 : sp_G} (h : scM g g2) : fCo g g2 := fCo.fr h.1 (by decide)
theorem mRep.sc {g g2 : sp_G} {Z : zZ} (h : mRep g Z) (hs : scM g g2) : mRep g2 Z := by
  obtain ⟨h1, h2, h3, h4, h5, h6, h7, h8⟩ := h
  have e : ∀ p j, p ∉ [52, 58, 60, 61, 62, 63, 64, 65, 66] → g2 p j = g p j := fun p j hp => hs.1 p hp j
  exact ⟨h1.fr hs.1 (by decide), by rw [hs.2.1]; exact h2, fun j j0 j1 => (h3 j j0 j1).fr hs.1 (by decide), by rw [e _ _ (by decide), e _ _ (by decide), e _ _ (by decide)]; exact h4, by rw [e _ _ (by decide), e _ _ (by decide), e _ _ (by decide)]; exact h5, by rw [hs.2.2]; exact h6, h7.fr hs.1 (by decide), h8.fr hs.1 (by decide)⟩
theorem mRep.town {g g2 : sp_G} {Z : zZ} {T : zT} (h : mRep g Z) (hf : sp_fr [53, 63] g g2) (hT : rH g2 53 0 145 (flt T)) : mRep g2 (zw T Z) := by
  obtain ⟨h1, h2, h3, h4, h5, h6, h7, h8⟩ := h
  have e : ∀ p j, p ∉ [53, 63] → g2 p j = g p j := fun p j hp => hf p hp j
  exact ⟨hT, by rw [e _ _ (by decide)]; exact h2, fun j j0 j1 => (h3 j j0 j1).fr hf (by decide), by rw [e _ _ (by decide), e _ _ (by decide), e _ _ (by decide)]; exact h4, by rw [e _ _ (by decide), e _ _ (by decide), e _ _ (by decide)]; exact h5, by rw [e _ _ (by decide)]; exact h6, h7.fr hf (by decide), h8.fr hf (by decide)⟩
theorem mRep.bad {g : sp_G} {Z : zZ} {k : Int} (h : mRep g Z) (hk : 0 ≤ k ∧ k ≤ 2) : mRep (sp_up g 56 k (g 56 k + 1)) (zr (k + 3) Z) := by
  obtain ⟨h1, h2, h3, h4, h5, h6, h7, h8⟩ := h
  have hf : sp_fr [56] g (sp_up g 56 k (g 56 k + 1)) := sp_fr.rf.up (by decide)
  have e : ∀ p j, p ≠ 56 → sp_up g 56 k (g 56 k + 1) p j = g p j := fun p j hp => sp_up_o _ _ _ _ hp
  refine ⟨h1.fr hf (by decide), by rw [e _ _ (by decide)]; exact h2, fun j j0 j1 => (h3 j j0 j1).fr hf (by decide), ?_, ?_, by rw [e _ _ (by decide)]; exact h6, h7.fr hf (by decide), h8.fr hf (by decide)⟩
  · rw [e _ _ (by decide), e _ _ (by decide), e _ _ (by decide)]
    show g 55 0 = up1 (zn Z) (k + 3) (zn Z (k + 3) + 1) 0 ∧ g 55 1 = up1 (zn Z) (k + 3) (zn Z (k + 3) + 1) 1 ∧ g 55 2 = up1 (zn Z) (k + 3) (zn Z (k + 3) + 1) 2
    rw [up1_n _ _ (by omega), up1_n _ _ (by omega), up1_n _ _ (by omega)]
    exact h4
  · show sp_up g 56 k (g 56 k + 1) 56 0 = up1 (zn Z) (k + 3) (zn Z (k + 3) + 1) 3 ∧ sp_up g 56 k (g 56 k + 1) 56 1 = up1 (zn Z) (k + 3) (zn Z (k + 3) + 1) 4 ∧ sp_up g 56 k (g 56 k + 1) 56 2 = up1 (zn Z) (k + 3) (zn Z (k + 3) + 1) 5
    rcases (show k = 0 ∨ k = 1 ∨ k = 2 by omega) with q | q | q <;> subst q <;> simp only [sp_up, up1] <;> simp [h5.1, h5.2.1, h5.2.2]
theorem mRep.pap {g : sp_G} {Z : zZ} {k v : Int} (h : mRep g Z) (hk : 0 ≤ k ∧ k ≤ 2) : mRep (sp_up g 55 k v) (zq k v Z) := by
  obtain ⟨h1, h2, h3, h4, h5, h6, h7, h8⟩ := h
  have hf : sp_fr [55] g (sp_up g 55 k v) := sp_fr.rf.up (by decide)
  have e : ∀ p j, p ≠ 55 → sp_up g 55 k v p j = g p j := fun p j hp => sp_up_o _ _ _ _ hp
  refine ⟨h1.fr hf (by decide), by rw [e _ _ (by decide)]; exact h2, fun j j0 j1 => (h3 j j0 j1).fr hf (by decide), ?_, ?_, by rw [e _ _ (by decide)]; exact h6, h7.fr hf (by decide), h8.fr hf (by decide)⟩
  · show sp_up g 55 k v 55 0 = up1 (zn Z) k v 0 ∧ sp_up g 55 k v 55 1 = up1 (zn Z) k v 1 ∧ sp_up g 55 k v 55 2 = up1 (zn Z) k v 2
    rcases (show k = 0 ∨ k = 1 ∨ k = 2 by omega) with q | q | q <;> subst q <;> simp only [sp_up, up1] <;> simp [h4.1, h4.2.1, h4.2.2]
  · rw [e _ _ (by decide), e _ _ (by decide), e _ _ (by decide)]
    show g 56 0 = up1 (zn Z) k v 3 ∧ g 56 1 = up1 (zn Z) k v 4 ∧ g 56 2 = up1 (zn Z) k v 5
    rw [up1_n _ _ (by omega), up1_n _ _ (by omega), up1_n _ _ (by omega)]
    exact h5
theorem mRep.txt {g g2 : sp_G} {Z : zZ} {x : Int → Int} {n : Int} (h : mRep g Z) (hf : sp_fr [52, 57] g g2) (e2 : g2 52 2 = g 52 2) (en : g2 52 6 = n) (hx : rH g2 57 0 n x) : mRep g2 (zt Z, zh Z, zc Z, zn Z, x, n) := by
  obtain ⟨h1, h2, h3, h4, h5, h6, h7, h8⟩ := h
  have e : ∀ p j, p ∉ [52, 57] → g2 p j = g p j := fun p j hp => hf p hp j
  exact ⟨h1.fr hf (by decide), by rw [e2]; exact h2, fun j j0 j1 => (h3 j j0 j1).fr hf (by decide), by rw [e _ _ (by decide), e _ _ (by decide), e _ _ (by decide)]; exact h4, by rw [e _ _ (by decide), e _ _ (by decide), e _ _ (by decide)]; exact h5, en, hx, h8.fr hf (by decide)⟩
theorem mRep.di {g : sp_G} {Z : zZ} (h : mRep g Z) : rH g 53 24 96 (zd (zt Z)) := (flt_in h.1).2.1
theorem mRep.pe {g : sp_G} {Z : zZ} (h : mRep g Z) : rH g 53 0 24 (zp (zt Z)) := (flt_in h.1).1
theorem mRep.na {g : sp_G} {Z : zZ} (h : mRep g Z) : rH g 53 120 24 (zm (zt Z)) := (flt_in h.1).2.2.1
theorem mRep.on {g : sp_G} {Z : zZ} (h : mRep g Z) : g 53 144 = zo (zt Z) := (flt_in h.1).2.2.2
theorem tX6_in (d : Nat) {v lo hi : Int} {g : sp_G} {Q : sp_P} (hr : ((-2147483648 ≤ v ∧ v < 2147483648)) ∧ ((-2147483648 ≤ lo ∧ lo < 2147483648)) ∧ ((-2147483648 ≤ hi ∧ hi < 2147483648))) (hQ : Q (some (v_i (sp_bl (lo ≤ v ∧ v ≤ hi)))) g) : sp_Met d mX6_in [v_i v, v_i lo, v_i hi] g Q := by
  refine sp_of (L := [_, _, _]) (by decide) (Nat.le_of_ble_eq_true rfl) rfl rfl ?_
  refine aw_iload_n dX6_in_0 rfl ?_
  refine aw_iload_n dX6_in_1 rfl ?_
  refine aw_icmp_lt (tg := 14) dX6_in_2 (by decide) (by omega) (fun h2 => ?_) (fun h2 => ?_)
  · refine aw_iconst dX6_in_14 ?_
    refine aw_zret dX6_in_15 rfl (by decide) ?_
    first | exact p_ie (P := fun z => Q (some (v_i z)) _) hQ (by omega) | exact p_it (P := fun z => Q (some (v_i z)) _) hQ (by omega)
  · refine aw_iload_n dX6_in_5 rfl ?_
    refine aw_iload_n dX6_in_6 rfl ?_
    refine aw_icmp_gt (tg := 14) dX6_in_7 (by decide) (by omega) (fun h7 => ?_) (fun h7 => ?_)
    · refine aw_iconst dX6_in_14 ?_
      refine aw_zret dX6_in_15 rfl (by decide) ?_
      first | exact p_ie (P := fun z => Q (some (v_i z)) _) hQ (by omega) | exact p_it (P := fun z => Q (some (v_i z)) _) hQ (by omega)
    · refine aw_iconst dX6_in_10 ?_
      refine aw_goto (tg := 15) dX6_in_11 (by decide) ?_
      refine aw_zret dX6_in_15 rfl (by decide) ?_
      first | exact p_ie (P := fun z => Q (some (v_i z)) _) hQ (by omega) | exact p_it (P := fun z => Q (some (v_i z)) _) hQ (by omega)
theorem tX6_isLayer (d : Nat) {l : Int} {g : sp_G} {Q : sp_P} (hr : (-2147483648 ≤ l ∧ l < 2147483648)) (hQ : Q (some (v_i (sp_bl (0 ≤ l ∧ l ≤ 3)))) g) : sp_Met (d + 1) mX6_isLayer [v_i l] g Q := by
  refine sp_of (L := [_]) (by decide) (Nat.le_of_ble_eq_true rfl) rfl rfl ?_
  refine aw_iload_n dX6_isLayer_0 rfl ?_
  refine aw_iconst dX6_isLayer_1 ?_
  refine aw_iconst dX6_isLayer_2 ?_
  refine aw_S3 dX6_isLayer_3 okX6_in lkX6_53 rfl ?_
  refine tX6_in d (by omega) ?_
  refine aw_zret dX6_isLayer_6 rfl (p_bl _) ?_
  exact hQ
theorem tX6_isDistrict (d : Nat) {l : Int} {g : sp_G} {Q : sp_P} (hr : (-2147483648 ≤ l ∧ l < 2147483648)) (hQ : Q (some (v_i (sp_bl (0 ≤ l ∧ l ≤ 5)))) g) : sp_Met (d + 1) mX6_isDistrict [v_i l] g Q := by
  refine sp_of (L := [_]) (by decide) (Nat.le_of_ble_eq_true rfl) rfl rfl ?_
  refine aw_iload_n dX6_isDistrict_0 rfl ?_
  refine aw_iconst dX6_isDistrict_1 ?_
  refine aw_iconst dX6_isDistrict_2 ?_
  refine aw_S3 dX6_isDistrict_3 okX6_in lkX6_53 rfl ?_
  refine tX6_in d (by omega) ?_
  refine aw_zret dX6_isDistrict_6 rfl (p_bl _) ?_
  exact hQ
theorem tX6_isBlock (d : Nat) {l : Int} {g : sp_G} {Q : sp_P} (hr : (-2147483648 ≤ l ∧ l < 2147483648)) (hQ : Q (some (v_i (sp_bl (0 ≤ l ∧ l ≤ 23)))) g) : sp_Met (d + 1) mX6_isBlock [v_i l] g Q := by
  refine sp_of (L := [_]) (by decide) (Nat.le_of_ble_eq_true rfl) rfl rfl ?_
  refine aw_iload_n dX6_isBlock_0 rfl ?_
  refine aw_iconst dX6_isBlock_1 ?_
  refine aw_bipush dX6_isBlock_2 (by decide) ?_
  refine aw_S3 dX6_isBlock_4 okX6_in lkX6_53 rfl ?_
  refine tX6_in d (by omega) ?_
  refine aw_zret dX6_isBlock_7 rfl (p_bl _) ?_
  exact hQ
theorem tX6_isRectangle (d : Nat) {a b : Int} {g : sp_G} {Q : sp_P} (ha : 0 ≤ a ∧ a ≤ 99) (hb : 0 ≤ b ∧ b ≤ 99) (hQ : Q (some (v_i (sp_bl (a / 4 ≤ b / 4 ∧ a % 4 ≤ b % 4)))) g) : sp_Met d mX6_isRectangle [v_i a, v_i b] g Q := by
  refine sp_of (L := [_, _]) (by decide) (Nat.le_of_ble_eq_true rfl) rfl rfl ?_
  refine aw_iload_n dX6_isRectangle_0 rfl ?_
  refine aw_iconst dX6_isRectangle_1 ?_
  refine aw_idiv dX6_isRectangle_2 (by omega) ?_
  refine aw_iload_n dX6_isRectangle_3 rfl ?_
  refine aw_iconst dX6_isRectangle_4 ?_
  refine aw_idiv dX6_isRectangle_5 (by omega) ?_
  refine aw_icmp_gt (tg := 22) dX6_isRectangle_6 (by decide) (by omega) (fun h6 => ?_) (fun h6 => ?_)
  · refine aw_iconst dX6_isRectangle_22 ?_
    refine aw_zret dX6_isRectangle_23 rfl (by decide) ?_
    first | exact p_ie (P := fun z => Q (some (v_i z)) _) hQ (by omega) | exact p_it (P := fun z => Q (some (v_i z)) _) hQ (by omega)
  · refine aw_iload_n dX6_isRectangle_9 rfl ?_
    refine aw_iconst dX6_isRectangle_10 ?_
    refine aw_irem dX6_isRectangle_11 (by omega) ?_
    refine aw_iload_n dX6_isRectangle_12 rfl ?_
    refine aw_iconst dX6_isRectangle_13 ?_
    refine aw_irem dX6_isRectangle_14 (by omega) ?_
    refine aw_icmp_gt (tg := 22) dX6_isRectangle_15 (by decide) (by omega) (fun h15 => ?_) (fun h15 => ?_)
    · refine aw_iconst dX6_isRectangle_22 ?_
      refine aw_zret dX6_isRectangle_23 rfl (by decide) ?_
      first | exact p_ie (P := fun z => Q (some (v_i z)) _) hQ (by omega) | exact p_it (P := fun z => Q (some (v_i z)) _) hQ (by omega)
    · refine aw_iconst dX6_isRectangle_18 ?_
      refine aw_goto (tg := 23) dX6_isRectangle_19 (by decide) ?_
      refine aw_zret dX6_isRectangle_23 rfl (by decide) ?_
      first | exact p_ie (P := fun z => Q (some (v_i z)) _) hQ (by omega) | exact p_it (P := fun z => Q (some (v_i z)) _) hQ (by omega)
theorem tX6_refuses (d : Nat) {a : Int} {g : sp_G} {Q : sp_P} (ha : -4 ≤ a ∧ a ≤ -2) (hQ : Q (some (v_i a)) (sp_up g 56 (-2 - a) (g 56 (-2 - a) + 1))) : sp_Met d mX6_refuses [v_r 52, v_i a] g Q := by
  refine sp_of (L := [_, _]) (by decide) (Nat.le_of_ble_eq_true rfl) rfl rfl ?_
  refine aw_aload_n dX6_refuses_0 rfl ?_
  refine aw_getR dX6_refuses_1 flX6_19 rfl rfl ?_
  refine aw_bipush dX6_refuses_4 (by decide) ?_
  refine aw_iload_n dX6_refuses_6 rfl ?_
  refine aw_isub dX6_refuses_7 ?_
  refine aw_dup2 dX6_refuses_8 rfl rfl ?_
  refine aw_iald dX6_refuses_9 rfl (by omega) ?_
  refine aw_iconst dX6_refuses_10 ?_
  refine aw_iadd dX6_refuses_11 ?_
  refine aw_iast dX6_refuses_12 rfl (by omega) ?_
  refine aw_iload_n dX6_refuses_13 rfl ?_
  refine aw_iret dX6_refuses_14 rfl ?_
  exact hQ
theorem zX6_ref0 (d : Nat) {B : Int} {Z : zZ} {g : sp_G} {Q : sp_P} (hR : mRep g Z) (hV : zV B Z) (hQ : ∀ g2 : sp_G, mRep g2 (zr 3 Z) → fCo g g2 → Q (some (v_i (-2))) g2) : sp_Met d mX6_refuses [v_r 52, v_i (-2)] g Q := tX6_refuses d (by omega) (hQ _ (hR.bad (k := 0) (by omega)) (fCo.rf.up (by decide)))
theorem zX6_ref1 (d : Nat) {B : Int} {Z : zZ} {g : sp_G} {Q : sp_P} (hR : mRep g Z) (hV : zV B Z) (hQ : ∀ g2 : sp_G, mRep g2 (zr 4 Z) → fCo g g2 → Q (some (v_i (-3))) g2) : sp_Met d mX6_refuses [v_r 52, v_i (-3)] g Q := tX6_refuses d (by omega) (hQ _ (hR.bad (k := 1) (by omega)) (fCo.rf.up (by decide)))
theorem zX6_ref2 (d : Nat) {B : Int} {Z : zZ} {g : sp_G} {Q : sp_P} (hR : mRep g Z) (hV : zV B Z) (hQ : ∀ g2 : sp_G, mRep g2 (zr 5 Z) → fCo g g2 → Q (some (v_i (-4))) g2) : sp_Met d mX6_refuses [v_r 52, v_i (-4)] g Q := tX6_refuses d (by omega) (hQ _ (hR.bad (k := 2) (by omega)) (fCo.rf.up (by decide)))
theorem tX6_district (d : Nat) {di : Int → Int} {l a : Int} {g : sp_G} {Q : sp_P} (hdi : rH g 53 24 96 di) (h : 0 ≤ l * 24 + a ∧ l * 24 + a < 96) (hQ : Q (some (v_i (di (l * 24 + a)))) g) : sp_Met d mX6_district [v_r 52, v_i l, v_i a] g Q := by
  refine sp_of (L := [_, _, _]) (by decide) (Nat.le_of_ble_eq_true rfl) rfl rfl ?_
  refine aw_aload_n dX6_district_0 rfl ?_
  refine aw_getR dX6_district_1 flX6_7 rfl rfl ?_
  refine aw_bipush dX6_district_4 (by decide) ?_
  refine aw_bipush dX6_district_6 (by decide) ?_
  refine aw_iload_n dX6_district_8 rfl ?_
  refine aw_imul dX6_district_9 ?_
  refine aw_iadd dX6_district_10 ?_
  refine aw_iload_n dX6_district_11 rfl ?_
  refine aw_iadd dX6_district_12 ?_
  refine aw_iald dX6_district_13 rfl (by omega) ?_
  refine aw_iret dX6_district_14 rfl ?_
  rw [hdi (l * 24 + a) _ h.1 h.2 (by omega)]
  exact hQ
theorem tX6_namesOf (d : Nat) {na : Int → Int} {l e : Int} {g : sp_G} {Q : sp_P} (hna : rH g 53 120 24 na) (h : 0 ≤ l * 6 + e ∧ l * 6 + e < 24) (hQ : Q (some (v_i (na (l * 6 + e)))) g) : sp_Met d mX6_namesOf [v_r 52, v_i l, v_i e] g Q := by
  refine sp_of (L := [_, _, _]) (by decide) (Nat.le_of_ble_eq_true rfl) rfl rfl ?_
  refine aw_aload_n dX6_namesOf_0 rfl ?_
  refine aw_getR dX6_namesOf_1 flX6_7 rfl rfl ?_
  refine aw_bipush dX6_namesOf_4 (by decide) ?_
  refine aw_bipush dX6_namesOf_6 (by decide) ?_
  refine aw_iload_n dX6_namesOf_8 rfl ?_
  refine aw_imul dX6_namesOf_9 ?_
  refine aw_iadd dX6_namesOf_10 ?_
  refine aw_iload_n dX6_namesOf_11 rfl ?_
  refine aw_iadd dX6_namesOf_12 ?_
  refine aw_iald dX6_namesOf_13 rfl (by omega) ?_
  refine aw_iret dX6_namesOf_14 rfl ?_
  rw [hna (l * 6 + e) _ h.1 h.2 (by omega)]
  exact hQ
theorem tX6_isOn (d : Nat) {on l : Int} {g : sp_G} {Q : sp_P} (hon : g 53 144 = on) (hb : bt on l = 0 ∨ bt on l = 1) (hQ : Q (some (v_i (sp_bl (bt on l = 1)))) g) : sp_Met d mX6_isOn [v_r 52, v_i l] g Q := by
  refine sp_of (L := [_, _]) (by decide) (Nat.le_of_ble_eq_true rfl) rfl rfl ?_
  refine aw_aload_n dX6_isOn_0 rfl ?_
  refine aw_getR dX6_isOn_1 flX6_7 rfl rfl ?_
  refine aw_sipush dX6_isOn_4 (by decide) ?_
  refine aw_iald dX6_isOn_7 rfl (by omega) ?_
  rw [hon]
  refine aw_iload_n dX6_isOn_8 rfl ?_
  refine aw_ishr dX6_isOn_9 ?_
  refine aw_iconst dX6_isOn_10 ?_
  refine aw_iand dX6_isOn_11 ?_
  refine aw_iconst dX6_isOn_12 ?_
  refine aw_icmp_ne (tg := 20) dX6_isOn_13 (by decide) (by unfold bt at hb; omega) (fun h13 => ?_) (fun h13 => ?_)
  · refine aw_iconst dX6_isOn_20 ?_
    refine aw_zret dX6_isOn_21 rfl (by decide) ?_
    unfold bt at hQ hb
    first | exact p_ie (P := fun z => Q (some (v_i z)) _) hQ (by omega) | exact p_it (P := fun z => Q (some (v_i z)) _) hQ (by omega)
  · refine aw_iconst dX6_isOn_16 ?_
    refine aw_goto (tg := 21) dX6_isOn_17 (by decide) ?_
    refine aw_zret dX6_isOn_21 rfl (by decide) ?_
    unfold bt at hQ hb
    first | exact p_ie (P := fun z => Q (some (v_i z)) _) hQ (by omega) | exact p_it (P := fun z => Q (some (v_i z)) _) hQ (by omega)
theorem lX6_kp2 (d : Nat) {c : Int} {f : Int → Int} {g0 : sp_G} {Q : sp_P} (hc : 0 ≤ c ∧ c ≤ 7) (ec : g0 52 2 = c) (hs : rH g0 53 0 145 f)
    (hQ : ∀ g : sp_G, sp_fr [54] g0 g → rH g 54 (145 * c) 145 f → (∀ j, (j < 145 * c ∨ 145 * c + 145 ≤ j) → g 54 j = g0 54 j) → Q none (sp_up g 52 2 (c + 1))) :
    ∀ (n : Nat) (k : Int) (g : sp_G), 0 ≤ k → k + n = 145 → sp_fr [54] g0 g → rH g 54 (145 * c) k f → (∀ j, (j < 145 * c ∨ 145 * c + k ≤ j) → g 54 j = g0 54 j) → sp_AW mX6_keeps d 52 [some (v_r 52), some (v_i k)] [] g Q := by
  intro n
  induction n with
  | zero =>
    intro k g h0 hn hf hr ho
    have ek : k = 145 := by omega
    subst ek
    have e2 : g 52 2 = c := by rw [hf 52 (by decide)]; exact ec
    refine aw_iload_n dX6_keeps_52 rfl ?_
    refine aw_sipush dX6_keeps_53 (by decide) ?_
    refine aw_icmp_ge (tg := 86) dX6_keeps_56 (by decide) (by omega) (fun h56 => ?_) (fun h56 => absurd h56 (by omega))
    refine aw_aload_n dX6_keeps_86 rfl ?_
    refine aw_dup dX6_keeps_87 rfl ?_
    refine aw_getI (kz := 2) dX6_keeps_88 flX6_57 rfl rfl rfl ?_
    rw [e2]
    refine aw_iconst dX6_keeps_91 ?_
    refine aw_iadd dX6_keeps_92 ?_
    refine aw_putI (kz := 2) dX6_keeps_93 flX6_57 fi_6_2 rfl rfl rfl  ?_
    refine aw_vret dX6_keeps_96 rfl ?_
    exact hQ g hf hr ho
  | succ n ih =>
    intro k g h0 hn hf hr ho
    have e2 : g 52 2 = c := by rw [hf 52 (by decide)]; exact ec
    have e3 : g 53 k = f k := by rw [hf 53 (by decide)]; exact hs k k h0 (by omega) (by omega)
    refine aw_iload_n dX6_keeps_52 rfl ?_
    refine aw_sipush dX6_keeps_53 (by decide) ?_
    refine aw_icmp_ge (tg := 86) dX6_keeps_56 (by decide) (by omega) (fun h56 => absurd h56 (by omega)) (fun h56 => ?_)
    refine aw_aload_n dX6_keeps_59 rfl ?_
    refine aw_getR dX6_keeps_60 flX6_13 rfl rfl ?_
    refine aw_sipush dX6_keeps_63 (by decide) ?_
    refine aw_aload_n dX6_keeps_66 rfl ?_
    refine aw_getI (kz := 2) dX6_keeps_67 flX6_57 rfl rfl rfl ?_
    rw [e2]
    refine aw_imul dX6_keeps_70 ?_
    refine aw_iload_n dX6_keeps_71 rfl ?_
    refine aw_iadd dX6_keeps_72 ?_
    refine aw_aload_n dX6_keeps_73 rfl ?_
    refine aw_getR dX6_keeps_74 flX6_7 rfl rfl ?_
    refine aw_iload_n dX6_keeps_77 rfl ?_
    refine aw_iald dX6_keeps_78 rfl (by omega) ?_
    rw [e3]
    refine aw_iast dX6_keeps_79 rfl (by omega) ?_
    refine aw_iinc (L2 := [_, _]) dX6_keeps_80 rfl (by decide) rfl rfl ?_
    refine aw_goto (tg := 52) dX6_keeps_83 (by decide) ?_
    refine ih (k + 1) _ (by omega) (by omega) (hf.up (by decide)) (fun i j i0 i1 e => ?_) (fun j hj => ?_)
    · by_cases hi : i = k
      · rw [show j = 145 * c + k by omega, sp_up_s, hi]
      · rw [sp_up_i _ _ _ _ (by omega)]
        exact hr i j i0 (by omega) e
    · rw [sp_up_i _ _ _ _ (by omega)]
      exact ho j (by omega)
theorem lX6_kp1 (d : Nat) {g0 : sp_G} {Q : sp_P} (hk : ∀ g : sp_G, sp_fr [54] g0 g → (∀ i, 0 ≤ i → i < 1015 → g 54 i = g0 54 (i + 145)) → sp_AW mX6_keeps d 40 [some (v_r 52), some (v_i 1015)] [] g Q) :
    ∀ (n : Nat) (k : Int) (g : sp_G), 0 ≤ k → k + n = 1015 → sp_fr [54] g0 g → (∀ i, 0 ≤ i → i < k → g 54 i = g0 54 (i + 145)) → (∀ i, k ≤ i → g 54 i = g0 54 i) → sp_AW mX6_keeps d 11 [some (v_r 52), some (v_i k)] [] g Q := by
  intro n
  induction n with
  | zero =>
    intro k g h0 hn hf h1 h2
    have ek : k = 1015 := by omega
    subst ek
    refine aw_iload_n dX6_keeps_11 rfl ?_
    refine aw_sipush dX6_keeps_12 (by decide) ?_
    refine aw_icmp_ge (tg := 40) dX6_keeps_15 (by decide) (by omega) (fun h15 => ?_) (fun h15 => absurd h15 (by omega))
    exact hk g hf h1
  | succ n ih =>
    intro k g h0 hn hf h1 h2
    have e3 := h2 (k + 145) (by omega)
    refine aw_iload_n dX6_keeps_11 rfl ?_
    refine aw_sipush dX6_keeps_12 (by decide) ?_
    refine aw_icmp_ge (tg := 40) dX6_keeps_15 (by decide) (by omega) (fun h15 => absurd h15 (by omega)) (fun h15 => ?_)
    refine aw_aload_n dX6_keeps_18 rfl ?_
    refine aw_getR dX6_keeps_19 flX6_13 rfl rfl ?_
    refine aw_iload_n dX6_keeps_22 rfl ?_
    refine aw_aload_n dX6_keeps_23 rfl ?_
    refine aw_getR dX6_keeps_24 flX6_13 rfl rfl ?_
    refine aw_iload_n dX6_keeps_27 rfl ?_
    refine aw_sipush dX6_keeps_28 (by decide) ?_
    refine aw_iadd dX6_keeps_31 ?_
    refine aw_iald dX6_keeps_32 rfl (by omega) ?_
    rw [e3]
    refine aw_iast dX6_keeps_33 rfl (by omega) ?_
    refine aw_iinc (L2 := [_, _]) dX6_keeps_34 rfl (by decide) rfl rfl ?_
    refine aw_goto (tg := 11) dX6_keeps_37 (by decide) ?_
    refine ih (k + 1) _ (by omega) (by omega) (hf.up (by decide)) (fun i i0 i1 => ?_) (fun i i0 => ?_)
    · by_cases hi : i = k
      · rw [hi, sp_up_s]
      · rw [sp_up_i _ _ _ _ hi]
        exact h1 i i0 (by omega)
    · rw [sp_up_i _ _ _ _ (by omega)]
      exact h2 i (by omega)
theorem tX6_keepsZ (d : Nat) {B : Int} {Z : zZ} {g : sp_G} {Q : sp_P} (hR : mRep g Z) (hV : zV B Z) (hQ : ∀ g2 : sp_G, mRep g2 (zk Z) → fCo g g2 → Q none g2) : sp_Met d mX6_keeps [v_r 52] g Q := by
  refine sp_of (L := [_, _]) (by decide) (Nat.le_of_ble_eq_true rfl) rfl rfl ?_
  obtain ⟨h1, h2, h3, h4, h5, h6, h7, h8⟩ := hR
  have hc := hV.2.1
  refine aw_aload_n dX6_keeps_0 rfl ?_
  refine aw_getI (kz := 2) dX6_keeps_1 flX6_57 rfl rfl rfl ?_
  refine aw_bipush dX6_keeps_4 (by decide) ?_
  rw [h2]
  refine aw_icmp_ne (tg := 50) dX6_keeps_6 (by decide) (by omega) (fun b6 => ?_) (fun b6 => ?_)
  · refine aw_iconst dX6_keeps_50 ?_
    refine aw_istore_n (L2 := [_, _]) dX6_keeps_51 (by decide) rfl rfl ?_
    have hzk : zk Z = (zt Z, fun j => if j = zc Z then zt Z else zh Z j, zc Z + 1, zn Z, zx Z, zl Z) := by
      unfold zk
      simp only [if_pos (show zc Z < 8 by omega)]
    refine lX6_kp2 d (c := zc Z) (by omega) h2 h1 (fun g2 hf hr ho => ?_) 145 0 g (by omega) (by omega) sp_fr.rf (fun i j i0 i1 => by omega) (fun j hj => rfl)
    rw [hzk] at hQ
    have e : ∀ p j, p ≠ 54 → p ≠ 52 → sp_up g2 52 2 (zc Z + 1) p j = g p j := fun p j hp hq => by rw [sp_up_o _ _ _ _ hq]; exact hf p (by simp; omega) j
    have hf2 : sp_fr [52, 54] g (sp_up g2 52 2 (zc Z + 1)) := (hf.wk (by decide)).up (by decide)
    refine hQ _ ⟨h1.fr hf2 (by decide), sp_up_s _ _ _ _, fun j j0 j1 => ?_, by rw [e _ _ (by decide) (by decide), e _ _ (by decide) (by decide), e _ _ (by decide) (by decide)]; exact h4, by rw [e _ _ (by decide) (by decide), e _ _ (by decide) (by decide), e _ _ (by decide) (by decide)]; exact h5, by rw [sp_up_i _ _ _ _ (by decide), hf 52 (by decide)]; exact h6, h7.fr hf2 (by decide), h8.fr hf2 (by decide)⟩ (fCo.fr hf2 (by decide))
    have j1 : j < zc Z + 1 := j1
    show rH _ 54 (145 * j) 145 (flt (if j = zc Z then zt Z else zh Z j))
    by_cases q : j = zc Z
    · rw [if_pos q, q]
      exact hr.ne (by decide)
    · rw [if_neg q]
      intro i k i0 i1 ek
      rw [sp_up_o _ _ _ _ (by decide), ho k (by omega)]
      exact h3 j j0 (by omega) i k i0 i1 ek
  · refine aw_iconst dX6_keeps_9 ?_
    refine aw_istore_n (L2 := [_, _]) dX6_keeps_10 (by decide) rfl rfl ?_
    have hzk : zk Z = (zt Z, fun j => if j = 7 then zt Z else zh Z (j + 1), 8, zn Z, zx Z, zl Z) := by
      unfold zk
      simp only [if_neg (show ¬ zc Z < 8 by omega)]
    rw [hzk] at hQ
    refine lX6_kp1 d (fun g1 hf1 hs1 => ?_) 1015 0 g (by omega) (by omega) sp_fr.rf (fun i i0 i1 => by omega) (fun i i0 => rfl)
    refine aw_aload_n dX6_keeps_40 rfl ?_
    refine aw_dup dX6_keeps_41 rfl ?_
    refine aw_getI (kz := 2) dX6_keeps_42 flX6_57 rfl rfl rfl ?_
    rw [hf1 52 (by decide), h2]
    refine aw_iconst dX6_keeps_45 ?_
    refine aw_isub dX6_keeps_46 ?_
    refine aw_putI (kz := 2) dX6_keeps_47 flX6_57 fi_6_2 rfl rfl rfl  ?_
    
    refine aw_iconst dX6_keeps_50 ?_
    refine aw_istore_n (L2 := [_, _]) dX6_keeps_51 (by decide) rfl rfl ?_
    refine lX6_kp2 d (c := 7) (f := flt (zt Z)) (by omega) (by rw [sp_up_s]; omega) ((h1.fr hf1 (by decide)).ne (by decide)) (fun g2 hf hr ho => ?_) 145 0 _ (by omega) (by omega) sp_fr.rf (fun i j i0 i1 => by omega) (fun j hj => rfl)
    have hf2 : sp_fr [52, 54] g (sp_up g2 52 2 (7 + 1)) := by
      have a1 : sp_fr [52, 54] g (sp_up g1 52 2 (zc Z - 1)) := (hf1.wk (by decide)).up (by decide)
      exact (a1.tr hf (by decide)).up (by decide)
    have e : ∀ p j, p ≠ 54 → p ≠ 52 → sp_up g2 52 2 (7 + 1) p j = g p j := fun p j hp hq => hf2 p (by simp; omega) j
    refine hQ _ ⟨h1.fr hf2 (by decide), sp_up_s _ _ _ _, fun j j0 j1 => ?_, by rw [e _ _ (by decide) (by decide), e _ _ (by decide) (by decide), e _ _ (by decide) (by decide)]; exact h4, by rw [e _ _ (by decide) (by decide), e _ _ (by decide) (by decide), e _ _ (by decide) (by decide)]; exact h5, by rw [sp_up_i _ _ _ _ (by decide), hf 52 (by decide), sp_up_i _ _ _ _ (by decide), hf1 52 (by decide)]; exact h6, h7.fr hf2 (by decide), h8.fr hf2 (by decide)⟩ (fCo.fr hf2 (by decide))
    have j1 : j < 8 := j1
    show rH _ 54 (145 * j) 145 (flt (if j = 7 then zt Z else zh Z (j + 1)))
    by_cases q : j = 7
    · rw [if_pos q, q]
      exact hr.ne (by decide)
    · rw [if_neg q]
      intro i k i0 i1 ek
      rw [sp_up_o _ _ _ _ (by decide), ho k (by omega), sp_up_o _ _ _ _ (by decide), hs1 k (by omega) (by omega)]
      exact h3 (j + 1) (by omega) (by omega) i (k + 145) i0 i1 (by omega)
