theorem lX6_isLike (d : Nat) {di : Int → Int} {on a b : Int} {g : sp_G} {Q : sp_P} (ha : 0 ≤ a ∧ a < 24) (hbb : 0 ≤ b ∧ b < 24) (hv : ∀ i, 0 ≤ i → i < 96 → 0 ≤ di i ∧ di i ≤ 5) (hb : ∀ l, 0 ≤ l → l < 4 → bt on l = 0 ∨ bt on l = 1) (hdi : rH g 53 24 96 di) (hon : g 53 144 = on) (hQ : Q (some (v_i (sp_bl (ky on di a = ky on di b)))) g) :
    ∀ (n : Nat) (l z : Int), 0 ≤ l → l + n = 4 → (z = 0 ∨ z = 1) → (z = 1 ↔ lkI on di a b l) → sp_AW mX6_isLike (d + 1) 5 [some (v_r 52), some (v_i a), some (v_i b), some (v_i z), some (v_i l)] [] g Q := by
  intro n
  induction n with
  | zero =>
    intro l z h0 hn hz hzl
    have el : l = 4 := by omega
    subst el
    rw [lkI_4 ha hbb hv] at hzl
    refine aw_iload dX6_isLike_5 rfl ?_
    refine aw_iconst dX6_isLike_7 ?_
    refine aw_icmp_ge (tg := 53) dX6_isLike_8 (by decide) (by omega) (fun h8 => ?_) (fun h8 => absurd h8 (by omega))
    refine aw_iload_n dX6_isLike_53 rfl ?_
    refine aw_zret dX6_isLike_54 rfl hz ?_
    by_cases q : ky on di a = ky on di b
    · have e9 := hzl.mpr q
      rw [e9]
      exact p_it (P := fun z => Q (some (v_i z)) _) hQ q
    · have e9 : z = 0 := by
        rcases hz with e | e
        · exact e
        · exact absurd (hzl.mp e) q
      rw [e9]
      exact p_ie (P := fun z => Q (some (v_i z)) _) hQ q
  | succ n ih =>
    intro l z h0 hn hz hzl
    have hbl := hb l h0 (by omega)
    have b1 := hv (l * 24 + a) (by omega) (by omega)
    have b2 := hv (l * 24 + b) (by omega) (by omega)
    refine aw_iload dX6_isLike_5 rfl ?_
    refine aw_iconst dX6_isLike_7 ?_
    refine aw_icmp_ge (tg := 53) dX6_isLike_8 (by decide) (by omega) (fun h8 => absurd h8 (by omega)) (fun h8 => ?_)
    refine aw_iload_n dX6_isLike_11 rfl ?_
    refine aw_if_eq (tg := 45) dX6_isLike_12 (by decide) (by omega) (fun h12 => ?_) (fun h12 => ?_)
    · refine aw_iconst dX6_isLike_45 ?_
      refine aw_istore_n (L2 := [_, _, _, _, _]) dX6_isLike_46 (by decide) rfl rfl ?_
      refine aw_iinc (L2 := [_, _, _, _, _]) dX6_isLike_47 rfl (by decide) rfl rfl ?_
      refine aw_goto (tg := 5) dX6_isLike_50 (by decide) ?_
      refine ih (l + 1) _ (by omega) (by omega) (by omega) ?_
      rw [lkI_s h0]
      exact ⟨fun e => absurd e (by omega), fun e => absurd (hzl.mpr e.1) (by omega)⟩
    · refine aw_aload_n dX6_isLike_15 rfl ?_
      refine aw_iload dX6_isLike_16 rfl ?_
      refine aw_V1 dX6_isLike_18 okX6_isOn lkX6_61 rfl rfl rfl ?_
      refine tX6_isOn _ hon hbl ?_
      refine aw_ifeq_b (tg := 41) dX6_isLike_21 (by decide) (fun h21 => ?_) (fun h21 => ?_)
      · refine aw_iconst dX6_isLike_41 ?_
        refine aw_goto (tg := 46) dX6_isLike_42 (by decide) ?_
        refine aw_istore_n (L2 := [_, _, _, _, _]) dX6_isLike_46 (by decide) rfl rfl ?_
        refine aw_iinc (L2 := [_, _, _, _, _]) dX6_isLike_47 rfl (by decide) rfl rfl ?_
        refine aw_goto (tg := 5) dX6_isLike_50 (by decide) ?_
        refine ih (l + 1) _ (by omega) (by omega) (by omega) ?_
        rw [lkI_s h0]
        exact ⟨fun _ => ⟨hzl.mp (by omega), fun e => absurd e h21⟩, fun _ => rfl⟩
      · refine aw_aload_n dX6_isLike_24 rfl ?_
        refine aw_iload dX6_isLike_25 rfl ?_
        refine aw_iload_n dX6_isLike_27 rfl ?_
        refine aw_V2 dX6_isLike_28 okX6_district lkX6_79 rfl rfl rfl ?_
        refine tX6_district _ hdi (by omega) ?_
        refine aw_aload_n dX6_isLike_31 rfl ?_
        refine aw_iload dX6_isLike_32 rfl ?_
        refine aw_iload_n dX6_isLike_34 rfl ?_
        refine aw_V2 dX6_isLike_35 okX6_district lkX6_79 rfl rfl rfl ?_
        refine tX6_district _ hdi (by omega) ?_
        refine aw_icmp_ne (tg := 45) dX6_isLike_38 (by decide) (by omega) (fun h38 => ?_) (fun h38 => ?_)
        · refine aw_iconst dX6_isLike_45 ?_
          refine aw_istore_n (L2 := [_, _, _, _, _]) dX6_isLike_46 (by decide) rfl rfl ?_
          refine aw_iinc (L2 := [_, _, _, _, _]) dX6_isLike_47 rfl (by decide) rfl rfl ?_
          refine aw_goto (tg := 5) dX6_isLike_50 (by decide) ?_
          refine ih (l + 1) _ (by omega) (by omega) (by omega) ?_
          rw [lkI_s h0]
          exact ⟨fun e => absurd e (by omega), fun e => absurd (e.2 h21) h38⟩
        · refine aw_iconst dX6_isLike_41 ?_
          refine aw_goto (tg := 46) dX6_isLike_42 (by decide) ?_
          refine aw_istore_n (L2 := [_, _, _, _, _]) dX6_isLike_46 (by decide) rfl rfl ?_
          refine aw_iinc (L2 := [_, _, _, _, _]) dX6_isLike_47 rfl (by decide) rfl rfl ?_
          refine aw_goto (tg := 5) dX6_isLike_50 (by decide) ?_
          refine ih (l + 1) _ (by omega) (by omega) (by omega) ?_
          rw [lkI_s h0]
          exact ⟨fun _ => ⟨hzl.mp (by omega), fun _ => h38⟩, fun _ => rfl⟩
theorem tX6_isLike (d : Nat) {di : Int → Int} {on a b : Int} {g : sp_G} {Q : sp_P} (ha : 0 ≤ a ∧ a < 24) (hbb : 0 ≤ b ∧ b < 24) (hv : ∀ i, 0 ≤ i → i < 96 → 0 ≤ di i ∧ di i ≤ 5) (hb : ∀ l, 0 ≤ l → l < 4 → bt on l = 0 ∨ bt on l = 1) (hdi : rH g 53 24 96 di) (hon : g 53 144 = on) (hQ : Q (some (v_i (sp_bl (ky on di a = ky on di b)))) g) : sp_Met (d + 1) mX6_isLike [v_r 52, v_i a, v_i b] g Q := by
  refine sp_of (L := [_, _, _, _, _]) (by decide) (Nat.le_of_ble_eq_true rfl) rfl rfl ?_
  refine aw_iconst dX6_isLike_0 ?_
  refine aw_istore_n (L2 := [_, _, _, _, _]) dX6_isLike_1 (by decide) rfl rfl ?_
  refine aw_iconst dX6_isLike_2 ?_
  refine aw_istore (L2 := [_, _, _, _, _]) dX6_isLike_3 (by decide) rfl rfl ?_
  exact lX6_isLike d ha hbb hv hb hdi hon hQ 4 0 1 (by omega) (by omega) (by omega) ⟨fun _ => trivial, fun _ => rfl⟩
/-- what finding leaves -/
def stM (g : sp_G) (kk : Int → Int) : Prop := g 52 12 = sc kk 24 ∧ rH g 60 0 24 (sy kk 24) ∧ rH g 61 0 (sc kk 24) (sf kk 24)
def fF (g g2 : sp_G) : Prop := sp_fr [52, 60, 61] g g2 ∧ ∀ j, j ≠ 12 → g2 52 j = g 52 j
theorem fF.rf {g : sp_G} : fF g g := ⟨sp_fr.rf, fun _ _ => rfl⟩
theorem fF.up {g g2 : sp_G} {o : Nat} {i x : Int} (h : fF g g2) (ho : o ∈ [52, 60, 61]) (hi : o = 52 → i = 12) : fF g (sp_up g2 o i x) := by
  refine ⟨h.1.up ho, fun j hj => ?_⟩
  by_cases e : (52 : Nat) = o
  · subst e
    rw [sp_up_i _ _ _ _ (by have := hi rfl; omega)]
    exact h.2 j hj
  · rw [sp_up_o _ _ _ _ e]
    exact h.2 j hj
theorem fF.sc {g g2 : sp_G} (h : fF g g2) : scM g g2 := ⟨h.1.wk (by decide), h.2 2 (by decide), h.2 6 (by decide)⟩
theorem lX6_fin_in (d : Nat) {di : Int → Int} {on a c : Int} {fs : Int → Int} {g0 : sp_G} {Q : sp_P} (ha : 0 ≤ a ∧ a < 24) (hc : 0 ≤ c ∧ c ≤ a) (hv : ∀ i, 0 ≤ i → i < 96 → 0 ≤ di i ∧ di i ≤ 5) (hb : ∀ l, 0 ≤ l → l < 4 → bt on l = 0 ∨ bt on l = 1) (hdi : rH g0 53 24 96 di) (hon : g0 53 144 = on) (e12 : g0 52 12 = c) (hfs : rH g0 61 0 c fs) (hfb : ∀ s, 0 ≤ s → s < c → 0 ≤ fs s ∧ fs s < a) (hdist : ∀ s t, 0 ≤ s → s < c → 0 ≤ t → t < c → ky on di (fs s) = ky on di (fs t) → s = t)
    (hk : ∀ (g : sp_G), sp_fr [60] g0 g → (∀ j, j ≠ a → g 60 j = g0 60 j) → g 60 a = (if fm (ky on di) fs (ky on di a) c < c then fm (ky on di) fs (ky on di a) c else -1) → sp_AW mX6_finds (d + 2) 66 [some (v_r 52), some (v_i a), some (v_i c)] [] g Q) :
    ∀ (n : Nat) (k : Int) (g : sp_G), 0 ≤ k → k + n = c → sp_fr [60] g0 g → (∀ j, j ≠ a → g 60 j = g0 60 j) → g 60 a = (if fm (ky on di) fs (ky on di a) c < k then fm (ky on di) fs (ky on di a) c else -1) → sp_AW mX6_finds (d + 2) 22 [some (v_r 52), some (v_i a), some (v_i k)] [] g Q := by
  generalize hkk : ky on di = kk at *
  obtain ⟨p0, p1, p2, p3⟩ := fm_p (kk := kk) (fs := fs) (x := kk a) hc.1
  intro n
  induction n with
  | zero =>
    intro k g h0 hn hf ho hva
    have ek : k = c := by omega
    subst ek
    have f12 : g 52 12 = k := by rw [hf 52 (by decide)]; exact e12
    refine aw_iload_n dX6_finds_22 rfl ?_
    refine aw_aload_n dX6_finds_23 rfl ?_
    refine aw_getI (kz := 12) dX6_finds_24 flX6_152 rfl rfl rfl ?_
    rw [f12]
    refine aw_icmp_ge (tg := 66) dX6_finds_27 (by decide) (by omega) (fun h27 => ?_) (fun h27 => absurd h27 (by omega))
    exact hk g hf ho hva
  | succ n ih =>
    intro k g h0 hn hf ho hva
    have f12 : g 52 12 = c := by rw [hf 52 (by decide)]; exact e12
    have fk : g 61 k = fs k := by rw [hf 61 (by decide)]; exact hfs k k h0 (by omega) (by omega)
    have fb := hfb k h0 (by omega)
    have fin : ∀ x : Int, x = (if fm kk fs (kk a) c < k + 1 then fm kk fs (kk a) c else -1) → sp_AW mX6_finds (d + 2) 22 [some (v_r 52), some (v_i a), some (v_i (k + 1))] [] (sp_up g 60 a x) Q := by
      intro x ex
      exact ih (k + 1) _ (by omega) (by omega) (hf.up (by decide)) (fun j hj => by rw [sp_up_i _ _ _ _ hj]; exact ho j hj) (by rw [sp_up_s]; exact ex)
    refine aw_iload_n dX6_finds_22 rfl ?_
    refine aw_aload_n dX6_finds_23 rfl ?_
    refine aw_getI (kz := 12) dX6_finds_24 flX6_152 rfl rfl rfl ?_
    rw [f12]
    refine aw_icmp_ge (tg := 66) dX6_finds_27 (by decide) (by omega) (fun h27 => absurd h27 (by omega)) (fun h27 => ?_)
    refine aw_aload_n dX6_finds_30 rfl ?_
    refine aw_getR dX6_finds_31 flX6_32 rfl rfl ?_
    refine aw_iload_n dX6_finds_34 rfl ?_
    refine aw_aload_n dX6_finds_35 rfl ?_
    refine aw_iload_n dX6_finds_36 rfl ?_
    refine aw_aload_n dX6_finds_37 rfl ?_
    refine aw_getR dX6_finds_38 flX6_35 rfl rfl ?_
    refine aw_iload_n dX6_finds_41 rfl ?_
    refine aw_iald dX6_finds_42 rfl (by omega) ?_
    rw [fk]
    refine aw_V2 dX6_finds_43 okX6_isLike lkX6_155 rfl rfl rfl ?_
    refine tX6_isLike _ (by omega) (by omega) hv hb (hdi.fr hf (by decide)) (by rw [hf 53 (by decide)]; exact hon) ?_
    rw [hkk]
    refine aw_ifeq_b (tg := 53) dX6_finds_46 (by decide) (fun h46 => ?_) (fun h46 => ?_)
    · refine aw_aload_n dX6_finds_53 rfl ?_
      refine aw_getR dX6_finds_54 flX6_32 rfl rfl ?_
      refine aw_iload_n dX6_finds_57 rfl ?_
      refine aw_iald dX6_finds_58 rfl (by omega) ?_
      
      refine aw_iast dX6_finds_59 rfl (by omega) ?_
      refine aw_iinc (L2 := [_, _, _]) dX6_finds_60 rfl (by decide) rfl rfl ?_
      refine aw_goto (tg := 22) dX6_finds_63 (by decide) ?_
      refine fin _ ?_
      rw [hva]
      by_cases q : fm kk fs (kk a) c < k
      · rw [if_pos q, if_pos (by omega)]
      · rw [if_neg q]
        by_cases r : fm kk fs (kk a) c = k
        · exact absurd (by have := p2 (by omega); rw [r] at this; exact this.symm) h46
        · rw [if_neg (by omega)]
    · refine aw_iload_n dX6_finds_49 rfl ?_
      refine aw_goto (tg := 59) dX6_finds_50 (by decide) ?_
      
      refine aw_iast dX6_finds_59 rfl (by omega) ?_
      refine aw_iinc (L2 := [_, _, _]) dX6_finds_60 rfl (by decide) rfl rfl ?_
      refine aw_goto (tg := 22) dX6_finds_63 (by decide) ?_
      refine fin _ ?_
      have hfk : fm kk fs (kk a) c = k := by
        rcases (show fm kk fs (kk a) c < k ∨ fm kk fs (kk a) c = k ∨ k < fm kk fs (kk a) c by omega) with q | q | q
        · exact hdist _ _ p0 (by omega) h0 (by omega) ((p2 (by omega)).trans h46)
        · exact q
        · exact absurd h46.symm (p3 k h0 q)
      rw [hfk, if_pos (by omega)]
theorem lX6_finds (d : Nat) {di : Int → Int} {on : Int} {g0 : sp_G} {Q : sp_P} (hv : ∀ i, 0 ≤ i → i < 96 → 0 ≤ di i ∧ di i ≤ 5) (hb : ∀ l, 0 ≤ l → l < 4 → bt on l = 0 ∨ bt on l = 1) (hdi : rH g0 53 24 96 di) (hon : g0 53 144 = on) (hQ : ∀ g : sp_G, fF g0 g → stM g (ky on di) → Q none g) :
    ∀ (n : Nat) (a : Int) (x : Option sp_V) (g : sp_G), 0 ≤ a → a + n = 24 → fF g0 g → g 52 12 = sc (ky on di) a → rH g 60 0 a (sy (ky on di) a) → rH g 61 0 (sc (ky on di) a) (sf (ky on di) a) → sp_AW mX6_finds (d + 2) 7 [some (v_r 52), some (v_i a), x] [] g Q := by
  intro n
  induction n with
  | zero =>
    intro a x g h0 hn hf hc hy hs
    have ea : a = 24 := by omega
    subst ea
    refine aw_iload_n dX6_finds_7 rfl ?_
    refine aw_bipush dX6_finds_8 (by decide) ?_
    refine aw_icmp_ge (tg := 111) dX6_finds_10 (by decide) (by omega) (fun h10 => ?_) (fun h10 => absurd h10 (by omega))
    refine aw_vret dX6_finds_111 rfl ?_
    exact hQ g hf ⟨hc, hy, hs⟩
  | succ n ih =>
    intro a x g h0 hn hf hc hy hs
    obtain ⟨⟨p1, p2, p3⟩, p4, p5, p6⟩ := st_p (kk := ky on di) h0
    obtain ⟨q0, q1, q2, q3⟩ := fm_p (kk := ky on di) (fs := sf (ky on di) a) (x := ky on di a) p1
    refine aw_iload_n dX6_finds_7 rfl ?_
    refine aw_bipush dX6_finds_8 (by decide) ?_
    refine aw_icmp_ge (tg := 111) dX6_finds_10 (by decide) (by omega) (fun h10 => absurd h10 (by omega)) (fun h10 => ?_)
    refine aw_aload_n dX6_finds_13 rfl ?_
    refine aw_getR dX6_finds_14 flX6_32 rfl rfl ?_
    refine aw_iload_n dX6_finds_17 rfl ?_
    refine aw_iconst dX6_finds_18 ?_
    refine aw_iast dX6_finds_19 rfl (by omega) ?_
    refine aw_iconst dX6_finds_20 ?_
    refine aw_istore_n (L2 := [_, _, _]) dX6_finds_21 (by decide) rfl rfl ?_
    refine lX6_fin_in d (fs := sf (ky on di) a) (c := sc (ky on di) a) (by omega) (by omega) hv hb ((hdi.fr hf.1 (by decide)).ne (by decide)) (by rw [sp_up_o _ _ _ _ (by decide), hf.1 53 (by decide)]; exact hon) (by rw [sp_up_o _ _ _ _ (by decide)]; exact hc) (hs.ne (by decide)) p4 p6 (fun g1 f1 o1 v1 => ?_) (sc (ky on di) a).toNat 0 _ (by omega) (by omega) sp_fr.rf (fun j hj => rfl) (by rw [sp_up_s, if_neg (by omega)])
    generalize hkk : ky on di = kk at *
    have hf1 : fF g0 g1 := ⟨(hf.1.up (by decide)).tr f1 (by decide), fun j hj => by rw [f1 52 (by decide), sp_up_o _ _ _ _ (by decide)]; exact hf.2 j hj⟩
    have c1 : g1 52 12 = sc kk a := by rw [f1 52 (by decide), sp_up_o _ _ _ _ (by decide)]; exact hc
    have y1 : ∀ i j, 0 ≤ i → i < a → j = 0 + i → g1 60 j = sy kk a i := fun i j i0 i1 e => by rw [o1 j (by omega), sp_up_i _ _ _ _ (by omega)]; exact hy i j i0 i1 e
    have s1 : rH g1 61 0 (sc kk a) (sf kk a) := (hs.ne (by decide)).fr f1 (by decide)
    refine aw_aload_n dX6_finds_66 rfl ?_
    refine aw_getR dX6_finds_67 flX6_32 rfl rfl ?_
    refine aw_iload_n dX6_finds_70 rfl ?_
    refine aw_iald dX6_finds_71 rfl (by omega) ?_
    rw [v1]
    refine aw_if_ge (tg := 105) dX6_finds_72 (by decide) (by split <;> omega) (fun h72 => ?_) (fun h72 => ?_)
    · refine aw_iinc (L2 := [_, _, _]) dX6_finds_105 rfl (by decide) rfl rfl ?_
      refine aw_goto (tg := 7) dX6_finds_108 (by decide) ?_
      have hlt : fm kk (sf kk a) (kk a) (sc kk a) < sc kk a := by
        by_cases q : fm kk (sf kk a) (kk a) (sc kk a) < sc kk a
        · exact q
        · rw [if_neg q] at h72; omega
      rw [if_pos hlt] at v1
      obtain ⟨e1, e2, e3⟩ := st_old h0 (show ¬ fm kk (sf kk a) (kk a) (sc kk a) = sc kk a by omega)
      refine ih (a + 1) _ _ (by omega) (by omega) hf1 (by rw [c1, e1]) (fun i j i0 i1 e => ?_) (by rw [e1, e2]; exact s1)
      rw [e3]
      by_cases hi : i = a
      · rw [show j = a by omega, v1, hi, up1_s]
      · rw [up1_n _ _ hi]
        exact y1 i j i0 (by omega) e
    · refine aw_aload_n dX6_finds_75 rfl ?_
      refine aw_getR dX6_finds_76 flX6_32 rfl rfl ?_
      refine aw_iload_n dX6_finds_79 rfl ?_
      refine aw_aload_n dX6_finds_80 rfl ?_
      refine aw_getI (kz := 12) dX6_finds_81 flX6_152 rfl rfl rfl ?_
      rw [c1]
      refine aw_iast dX6_finds_84 rfl (by omega) ?_
      refine aw_aload_n dX6_finds_85 rfl ?_
      refine aw_getR dX6_finds_86 flX6_35 rfl rfl ?_
      refine aw_aload_n dX6_finds_89 rfl ?_
      refine aw_getI (kz := 12) dX6_finds_90 flX6_152 rfl rfl rfl ?_
      rw [sp_up_o _ _ _ _ (by decide), c1]
      refine aw_iload_n dX6_finds_93 rfl ?_
      refine aw_iast dX6_finds_94 rfl (by omega) ?_
      refine aw_aload_n dX6_finds_95 rfl ?_
      refine aw_dup dX6_finds_96 rfl ?_
      refine aw_getI (kz := 12) dX6_finds_97 flX6_152 rfl rfl rfl ?_
      rw [sp_up_o _ _ _ _ (by decide), sp_up_o _ _ _ _ (by decide), c1]
      refine aw_iconst dX6_finds_100 ?_
      refine aw_iadd dX6_finds_101 ?_
      refine aw_putI (kz := 12) dX6_finds_102 flX6_152 fi_6_12 rfl rfl rfl  ?_
      refine aw_iinc (L2 := [_, _, _]) dX6_finds_105 rfl (by decide) rfl rfl ?_
      refine aw_goto (tg := 7) dX6_finds_108 (by decide) ?_
      have heq : fm kk (sf kk a) (kk a) (sc kk a) = sc kk a := by
        by_cases q : fm kk (sf kk a) (kk a) (sc kk a) < sc kk a
        · rw [if_pos q] at h72; omega
        · omega
      obtain ⟨e1, e2, e3⟩ := st_new h0 heq
      refine ih (a + 1) _ _ (by omega) (by omega) (((hf1.up (by decide) (by omega)).up (by decide) (by omega)).up (by decide) (by omega)) (by rw [sp_up_s, e1]) (fun i j i0 i1 e => ?_) (fun i j i0 i1 e => ?_)
      · rw [e3, sp_up_o _ _ _ _ (by decide), sp_up_o _ _ _ _ (by decide)]
        by_cases hi : i = a
        · rw [show j = a by omega, sp_up_s, hi, up1_s]
        · rw [sp_up_i _ _ _ _ (by omega), up1_n _ _ hi]
          exact y1 i j i0 (by omega) e
      · rw [e1] at i1
        rw [e2, sp_up_o _ _ _ _ (by decide)]
        by_cases hi : i = sc kk a
        · rw [show j = sc kk a by omega, sp_up_s, hi, up1_s]
        · rw [sp_up_i _ _ _ _ (by omega), up1_n _ _ hi, sp_up_o _ _ _ _ (by decide)]
          exact s1 i j i0 (by omega) e
theorem tX6_finds (d : Nat) {di : Int → Int} {on : Int} {g : sp_G} {Q : sp_P} (hv : ∀ i, 0 ≤ i → i < 96 → 0 ≤ di i ∧ di i ≤ 5) (hb : ∀ l, 0 ≤ l → l < 4 → bt on l = 0 ∨ bt on l = 1) (hdi : rH g 53 24 96 di) (hon : g 53 144 = on) (hQ : ∀ g2 : sp_G, fF g g2 → stM g2 (ky on di) → Q none g2) : sp_Met (d + 2) mX6_finds [v_r 52] g Q := by
  refine sp_of (L := [_, _, _]) (by decide) (Nat.le_of_ble_eq_true rfl) rfl rfl ?_
  refine aw_aload_n dX6_finds_0 rfl ?_
  refine aw_iconst dX6_finds_1 ?_
  refine aw_putI (kz := 12) dX6_finds_2 flX6_152 fi_6_12 rfl rfl rfl  ?_
  refine aw_iconst dX6_finds_5 ?_
  refine aw_istore_n (L2 := [_, _, _]) dX6_finds_6 (by decide) rfl rfl ?_
  refine lX6_finds d hv hb hdi hon hQ 24 0 _ _ (by omega) (by omega) (fF.rf.up (by decide) (by omega)) (sp_up_s _ _ _ _) (fun i j i0 i1 => by omega) (fun i j i0 i1 => ?_)
  exact absurd i1 (by have : sc (ky on di) 0 = 0 := rfl; omega)
theorem zX6_finds (d : Nat) {B : Int} {Z : zZ} {g : sp_G} {Q : sp_P} (hR : mRep g Z) (hV : zV B Z) (hQ : ∀ g2 : sp_G, fF g g2 → stM g2 (ky (zo (zt Z)) (zd (zt Z))) → Q none g2) : sp_Met (d + 2) mX6_finds [v_r 52] g Q := tX6_finds d hV.1.2.1 (fun l l0 l1 => bt_01 hV.1.2.2.2 ⟨l0, l1⟩) hR.di hR.on hQ
theorem zX6_isStyle (d : Nat) {B : Int} {Z : zZ} {s : Int} {g : sp_G} {Q : sp_P} (hR : mRep g Z) (hV : zV B Z) (hs : (-2147483648 ≤ s ∧ s < 2147483648)) (hQ : ∀ g2 : sp_G, fF g g2 → stM g2 (ky (zo (zt Z)) (zd (zt Z))) → Q (some (v_i (sp_bl (0 ≤ s ∧ s ≤ (sc (ky (zo (zt Z)) (zd (zt Z))) 24) - 1)))) g2) : sp_Met (d + 3) mX6_isStyle [v_r 52, v_i s] g Q := by
  refine sp_of (L := [_, _]) (by decide) (Nat.le_of_ble_eq_true rfl) rfl rfl ?_
  have hb := (st_b (ky (zo (zt Z)) (zd (zt Z)))).1
  refine aw_aload_n dX6_isStyle_0 rfl ?_
  refine aw_V0 dX6_isStyle_1 okX6_finds lkX6_112 rfl rfl rfl ?_
  refine zX6_finds _ hR hV (fun g2 hf hst => ?_)
  refine aw_iload_n dX6_isStyle_4 rfl ?_
  refine aw_iconst dX6_isStyle_5 ?_
  refine aw_aload_n dX6_isStyle_6 rfl ?_
  refine aw_getI (kz := 12) dX6_isStyle_7 flX6_152 rfl rfl rfl ?_
  rw [hst.1]
  refine aw_iconst dX6_isStyle_10 ?_
  refine aw_isub dX6_isStyle_11 ?_
  refine aw_S3 dX6_isStyle_12 okX6_in lkX6_53 rfl ?_
  refine tX6_in _ (by omega) ?_
  refine aw_zret dX6_isStyle_15 rfl (p_bl _) ?_
  exact hQ g2 hf hst
theorem lX6_blocksOf (d : Nat) {y : Int → Int} {s : Int} {g : sp_G} {Q : sp_P} (hy : rH g 60 0 24 y) (hyb : ∀ a, 0 ≤ a → a < 24 → 0 ≤ y a ∧ y a < 24) (hs : 0 ≤ s ∧ s < 24) (hQ : Q (some (v_i (sI (bF y s) 24))) g) :
    ∀ (n : Nat) (a many : Int), 0 ≤ a → a + n = 24 → many = sI (bF y s) a → sp_AW mX6_blocksOf d 4 [some (v_r 52), some (v_i s), some (v_i many), some (v_i a)] [] g Q := by
  intro n
  induction n with
  | zero =>
    intro a many h0 hn em
    have ea : a = 24 := by omega
    subst ea
    refine aw_iload_n dX6_blocksOf_4 rfl ?_
    refine aw_bipush dX6_blocksOf_5 (by decide) ?_
    refine aw_icmp_ge (tg := 34) dX6_blocksOf_7 (by decide) (by omega) (fun h7 => ?_) (fun h7 => absurd h7 (by omega))
    refine aw_iload_n dX6_blocksOf_34 rfl ?_
    refine aw_iret dX6_blocksOf_35 rfl ?_
    rw [em]
    exact hQ
  | succ n ih =>
    intro a many h0 hn em
    have e1 := hy a a h0 (by omega) (by omega)
    have b1 := hyb a h0 (by omega)
    refine aw_iload_n dX6_blocksOf_4 rfl ?_
    refine aw_bipush dX6_blocksOf_5 (by decide) ?_
    refine aw_icmp_ge (tg := 34) dX6_blocksOf_7 (by decide) (by omega) (fun h7 => absurd h7 (by omega)) (fun h7 => ?_)
    refine aw_iload_n dX6_blocksOf_10 rfl ?_
    refine aw_aload_n dX6_blocksOf_11 rfl ?_
    refine aw_getR dX6_blocksOf_12 flX6_32 rfl rfl ?_
    refine aw_iload_n dX6_blocksOf_15 rfl ?_
    refine aw_iald dX6_blocksOf_16 rfl (by omega) ?_
    rw [e1]
    refine aw_iload_n dX6_blocksOf_17 rfl ?_
    refine aw_icmp_ne (tg := 25) dX6_blocksOf_18 (by decide) (by omega) (fun h18 => ?_) (fun h18 => ?_)
    · refine aw_iconst dX6_blocksOf_25 ?_
      refine aw_iadd dX6_blocksOf_26 ?_
      refine aw_istore_n (L2 := [_, _, _, _]) dX6_blocksOf_27 (by decide) rfl rfl ?_
      refine aw_iinc (L2 := [_, _, _, _]) dX6_blocksOf_28 rfl (by decide) rfl rfl ?_
      refine aw_goto (tg := 4) dX6_blocksOf_31 (by decide) ?_
      refine ih (a + 1) _ (by omega) (by omega) ?_
      rw [sI_s _ h0, ← em]
      unfold bF
      rw [if_neg h18]
    · refine aw_iconst dX6_blocksOf_21 ?_
      refine aw_goto (tg := 26) dX6_blocksOf_22 (by decide) ?_
      refine aw_iadd dX6_blocksOf_26 ?_
      refine aw_istore_n (L2 := [_, _, _, _]) dX6_blocksOf_27 (by decide) rfl rfl ?_
      refine aw_iinc (L2 := [_, _, _, _]) dX6_blocksOf_28 rfl (by decide) rfl rfl ?_
      refine aw_goto (tg := 4) dX6_blocksOf_31 (by decide) ?_
      refine ih (a + 1) _ (by omega) (by omega) ?_
      rw [sI_s _ h0, ← em]
      unfold bF
      rw [if_pos h18]
theorem tX6_blocksOf (d : Nat) {y : Int → Int} {s : Int} {g : sp_G} {Q : sp_P} (hy : rH g 60 0 24 y) (hyb : ∀ a, 0 ≤ a → a < 24 → 0 ≤ y a ∧ y a < 24) (hs : 0 ≤ s ∧ s < 24) (hQ : Q (some (v_i (sI (bF y s) 24))) g) : sp_Met d mX6_blocksOf [v_r 52, v_i s] g Q := by
  refine sp_of (L := [_, _, _, _]) (by decide) (Nat.le_of_ble_eq_true rfl) rfl rfl ?_
  refine aw_iconst dX6_blocksOf_0 ?_
  refine aw_istore_n (L2 := [_, _, _, _]) dX6_blocksOf_1 (by decide) rfl rfl ?_
  refine aw_iconst dX6_blocksOf_2 ?_
  refine aw_istore_n (L2 := [_, _, _, _]) dX6_blocksOf_3 (by decide) rfl rfl ?_
  exact lX6_blocksOf d hy hyb hs hQ 24 0 0 (by omega) (by omega) rfl
theorem lX6_votersOf (d : Nat) {y pe : Int → Int} {s : Int} {g : sp_G} {Q : sp_P} (hy : rH g 60 0 24 y) (hyb : ∀ a, 0 ≤ a → a < 24 → 0 ≤ y a ∧ y a < 24) (hs : 0 ≤ s ∧ s < 24) (hpe : rH g 53 0 24 pe) (hQ : Q (some (v_i (vo y pe s))) g) :
    ∀ (n : Nat) (a many : Int), 0 ≤ a → a + n = 24 → many = sI (vF y pe s) a → sp_AW mX6_votersOf d 4 [some (v_r 52), some (v_i s), some (v_i many), some (v_i a)] [] g Q := by
  intro n
  induction n with
  | zero =>
    intro a many h0 hn em
    have ea : a = 24 := by omega
    subst ea
    refine aw_iload_n dX6_votersOf_4 rfl ?_
    refine aw_bipush dX6_votersOf_5 (by decide) ?_
    refine aw_icmp_ge (tg := 39) dX6_votersOf_7 (by decide) (by omega) (fun h7 => ?_) (fun h7 => absurd h7 (by omega))
    refine aw_iload_n dX6_votersOf_39 rfl ?_
    refine aw_iret dX6_votersOf_40 rfl ?_
    rw [em]
    exact hQ
  | succ n ih =>
    intro a many h0 hn em
    have e1 := hy a a h0 (by omega) (by omega)
    have b1 := hyb a h0 (by omega)
    have e2 := hpe a a h0 (by omega) (by omega)
    refine aw_iload_n dX6_votersOf_4 rfl ?_
    refine aw_bipush dX6_votersOf_5 (by decide) ?_
    refine aw_icmp_ge (tg := 39) dX6_votersOf_7 (by decide) (by omega) (fun h7 => absurd h7 (by omega)) (fun h7 => ?_)
    refine aw_iload_n dX6_votersOf_10 rfl ?_
    refine aw_aload_n dX6_votersOf_11 rfl ?_
    refine aw_getR dX6_votersOf_12 flX6_32 rfl rfl ?_
    refine aw_iload_n dX6_votersOf_15 rfl ?_
    refine aw_iald dX6_votersOf_16 rfl (by omega) ?_
    rw [e1]
    refine aw_iload_n dX6_votersOf_17 rfl ?_
    refine aw_icmp_ne (tg := 30) dX6_votersOf_18 (by decide) (by omega) (fun h18 => ?_) (fun h18 => ?_)
    · refine aw_iconst dX6_votersOf_30 ?_
      refine aw_iadd dX6_votersOf_31 ?_
      refine aw_istore_n (L2 := [_, _, _, _]) dX6_votersOf_32 (by decide) rfl rfl ?_
      refine aw_iinc (L2 := [_, _, _, _]) dX6_votersOf_33 rfl (by decide) rfl rfl ?_
      refine aw_goto (tg := 4) dX6_votersOf_36 (by decide) ?_
      refine ih (a + 1) _ (by omega) (by omega) ?_
      rw [sI_s _ h0, ← em]
      unfold vF
      rw [if_neg h18]
    · refine aw_aload_n dX6_votersOf_21 rfl ?_
      refine aw_getR dX6_votersOf_22 flX6_7 rfl rfl ?_
      refine aw_iload_n dX6_votersOf_25 rfl ?_
      refine aw_iald dX6_votersOf_26 rfl (by omega) ?_
      rw [e2]
      refine aw_goto (tg := 31) dX6_votersOf_27 (by decide) ?_
      refine aw_iadd dX6_votersOf_31 ?_
      refine aw_istore_n (L2 := [_, _, _, _]) dX6_votersOf_32 (by decide) rfl rfl ?_
      refine aw_iinc (L2 := [_, _, _, _]) dX6_votersOf_33 rfl (by decide) rfl rfl ?_
      refine aw_goto (tg := 4) dX6_votersOf_36 (by decide) ?_
      refine ih (a + 1) _ (by omega) (by omega) ?_
      rw [sI_s _ h0, ← em]
      unfold vF
      rw [if_pos h18]
theorem tX6_votersOf (d : Nat) {y pe : Int → Int} {s : Int} {g : sp_G} {Q : sp_P} (hy : rH g 60 0 24 y) (hyb : ∀ a, 0 ≤ a → a < 24 → 0 ≤ y a ∧ y a < 24) (hs : 0 ≤ s ∧ s < 24) (hpe : rH g 53 0 24 pe) (hQ : Q (some (v_i (vo y pe s))) g) : sp_Met d mX6_votersOf [v_r 52, v_i s] g Q := by
  refine sp_of (L := [_, _, _, _]) (by decide) (Nat.le_of_ble_eq_true rfl) rfl rfl ?_
  refine aw_iconst dX6_votersOf_0 ?_
  refine aw_istore_n (L2 := [_, _, _, _]) dX6_votersOf_1 (by decide) rfl rfl ?_
  refine aw_iconst dX6_votersOf_2 ?_
  refine aw_istore_n (L2 := [_, _, _, _]) dX6_votersOf_3 (by decide) rfl rfl ?_
  exact lX6_votersOf d hy hyb hs hpe hQ 24 0 0 (by omega) (by omega) rfl
theorem tX6_isBeside (d : Nat) {a b : Int} {g : sp_G} {Q : sp_P} (ha : 0 ≤ a ∧ a < 24) (hb : 0 ≤ b ∧ b < 24) (hQ : Q (some (v_i (sp_bl (adj a b)))) g) : sp_Met d mX6_isBeside [v_i a, v_i b] g Q := by
  refine sp_of (L := [_, _]) (by decide) (Nat.le_of_ble_eq_true rfl) rfl rfl ?_
  refine aw_iload_n dX6_isBeside_0 rfl ?_
  refine aw_iconst dX6_isBeside_1 ?_
  refine aw_iadd dX6_isBeside_2 ?_
  refine aw_iload_n dX6_isBeside_3 rfl ?_
  refine aw_icmp_eq (tg := 37) dX6_isBeside_4 (by decide) (by omega) (fun h4 => ?_) (fun h4 => ?_)
  · refine aw_iconst dX6_isBeside_37 ?_
    refine aw_goto (tg := 42) dX6_isBeside_38 (by decide) ?_
    refine aw_zret dX6_isBeside_42 rfl (by decide) ?_
    first | exact p_ie (P := fun z => Q (some (v_i z)) _) hQ (by omega) | exact p_it (P := fun z => Q (some (v_i z)) _) hQ (by omega)
  · refine aw_iload_n dX6_isBeside_7 rfl ?_
    refine aw_iconst dX6_isBeside_8 ?_
    refine aw_iadd dX6_isBeside_9 ?_
    refine aw_iload_n dX6_isBeside_10 rfl ?_
    refine aw_icmp_eq (tg := 37) dX6_isBeside_11 (by decide) (by omega) (fun h11 => ?_) (fun h11 => ?_)
    · refine aw_iconst dX6_isBeside_37 ?_
      refine aw_goto (tg := 42) dX6_isBeside_38 (by decide) ?_
      refine aw_zret dX6_isBeside_42 rfl (by decide) ?_
      first | exact p_ie (P := fun z => Q (some (v_i z)) _) hQ (by omega) | exact p_it (P := fun z => Q (some (v_i z)) _) hQ (by omega)
    · refine aw_iload_n dX6_isBeside_14 rfl ?_
      refine aw_iconst dX6_isBeside_15 ?_
      refine aw_idiv dX6_isBeside_16 (by omega) ?_
      refine aw_iload_n dX6_isBeside_17 rfl ?_
      refine aw_iconst dX6_isBeside_18 ?_
      refine aw_idiv dX6_isBeside_19 (by omega) ?_
      refine aw_icmp_ne (tg := 41) dX6_isBeside_20 (by decide) (by omega) (fun h20 => ?_) (fun h20 => ?_)
      · refine aw_iconst dX6_isBeside_41 ?_
        refine aw_zret dX6_isBeside_42 rfl (by decide) ?_
        first | exact p_ie (P := fun z => Q (some (v_i z)) _) hQ (by omega) | exact p_it (P := fun z => Q (some (v_i z)) _) hQ (by omega)
      · refine aw_iload_n dX6_isBeside_23 rfl ?_
        refine aw_iconst dX6_isBeside_24 ?_
        refine aw_iadd dX6_isBeside_25 ?_
        refine aw_iload_n dX6_isBeside_26 rfl ?_
        refine aw_icmp_eq (tg := 37) dX6_isBeside_27 (by decide) (by omega) (fun h27 => ?_) (fun h27 => ?_)
        · refine aw_iconst dX6_isBeside_37 ?_
          refine aw_goto (tg := 42) dX6_isBeside_38 (by decide) ?_
          refine aw_zret dX6_isBeside_42 rfl (by decide) ?_
          first | exact p_ie (P := fun z => Q (some (v_i z)) _) hQ (by omega) | exact p_it (P := fun z => Q (some (v_i z)) _) hQ (by omega)
        · refine aw_iload_n dX6_isBeside_30 rfl ?_
          refine aw_iconst dX6_isBeside_31 ?_
          refine aw_iadd dX6_isBeside_32 ?_
          refine aw_iload_n dX6_isBeside_33 rfl ?_
          refine aw_icmp_ne (tg := 41) dX6_isBeside_34 (by decide) (by omega) (fun h34 => ?_) (fun h34 => ?_)
          · refine aw_iconst dX6_isBeside_41 ?_
            refine aw_zret dX6_isBeside_42 rfl (by decide) ?_
            first | exact p_ie (P := fun z => Q (some (v_i z)) _) hQ (by omega) | exact p_it (P := fun z => Q (some (v_i z)) _) hQ (by omega)
          · refine aw_iconst dX6_isBeside_37 ?_
            refine aw_goto (tg := 42) dX6_isBeside_38 (by decide) ?_
            refine aw_zret dX6_isBeside_42 rfl (by decide) ?_
            first | exact p_ie (P := fun z => Q (some (v_i z)) _) hQ (by omega) | exact p_it (P := fun z => Q (some (v_i z)) _) hQ (by omega)
theorem lX6_con (d : Nat) {B : Int} {Z : zZ} {g : sp_G} {Q : sp_P} (hR : mRep g Z) (hV : zV B Z) (hQ : Q (some (v_i (sI (bt (zo (zt Z))) 4))) g) :
    ∀ (n : Nat) (l many : Int), 0 ≤ l → l + n = 4 → many = sI (bt (zo (zt Z))) l → sp_AW mX6_contestsOn (d + 1) 4 [some (v_r 52), some (v_i many), some (v_i l)] [] g Q := by
  intro n
  induction n with
  | zero =>
    intro l many h0 hn em
    have ea : l = 4 := by omega
    subst ea
    refine aw_iload_n dX6_contestsOn_4 rfl ?_
    refine aw_iconst dX6_contestsOn_5 ?_
    refine aw_icmp_ge (tg := 31) dX6_contestsOn_6 (by decide) (by omega) (fun h6 => ?_) (fun h6 => absurd h6 (by omega))
    refine aw_iload_n dX6_contestsOn_31 rfl ?_
    refine aw_iret dX6_contestsOn_32 rfl ?_
    rw [em]
    exact hQ
  | succ n ih =>
    intro l many h0 hn em
    have hbl := bt_01 (on := (zo (zt Z))) (l := l) hV.1.2.2.2 (by omega)
    refine aw_iload_n dX6_contestsOn_4 rfl ?_
    refine aw_iconst dX6_contestsOn_5 ?_
    refine aw_icmp_ge (tg := 31) dX6_contestsOn_6 (by decide) (by omega) (fun h6 => absurd h6 (by omega)) (fun h6 => ?_)
    refine aw_iload_n dX6_contestsOn_9 rfl ?_
    refine aw_aload_n dX6_contestsOn_10 rfl ?_
    refine aw_iload_n dX6_contestsOn_11 rfl ?_
    refine aw_V1 dX6_contestsOn_12 okX6_isOn lkX6_61 rfl rfl rfl ?_
    refine tX6_isOn _ hR.on hbl ?_
    refine aw_ifeq_b (tg := 22) dX6_contestsOn_15 (by decide) (fun h15 => ?_) (fun h15 => ?_)
    · refine aw_iconst dX6_contestsOn_22 ?_
      refine aw_iadd dX6_contestsOn_23 ?_
      refine aw_istore_n (L2 := [_, _, _]) dX6_contestsOn_24 (by decide) rfl rfl ?_
      refine aw_iinc (L2 := [_, _, _]) dX6_contestsOn_25 rfl (by decide) rfl rfl ?_
      refine aw_goto (tg := 4) dX6_contestsOn_28 (by decide) ?_
      exact ih (l + 1) _ (by omega) (by omega) (by rw [sI_s _ h0, ← em]; omega)
    · refine aw_iconst dX6_contestsOn_18 ?_
      refine aw_goto (tg := 23) dX6_contestsOn_19 (by decide) ?_
      refine aw_iadd dX6_contestsOn_23 ?_
      refine aw_istore_n (L2 := [_, _, _]) dX6_contestsOn_24 (by decide) rfl rfl ?_
      refine aw_iinc (L2 := [_, _, _]) dX6_contestsOn_25 rfl (by decide) rfl rfl ?_
      refine aw_goto (tg := 4) dX6_contestsOn_28 (by decide) ?_
      exact ih (l + 1) _ (by omega) (by omega) (by rw [sI_s _ h0, ← em]; omega)
theorem sI_4 (f : Int → Int) : sI f 4 = f 0 + f 1 + f 2 + f 3 := by
  have e1 := sI_s f (a := 0) (by omega)
  have e2 := sI_s f (a := 1) (by omega)
  have e3 := sI_s f (a := 2) (by omega)
  have e4 := sI_s f (a := 3) (by omega)
  have e0 := sI_0 f
  simp only [Int.zero_add, Int.reduceAdd] at e1 e2 e3 e4
  omega
theorem zX6_contestsOn (d : Nat) {B : Int} {Z : zZ} {g : sp_G} {Q : sp_P} (hR : mRep g Z) (hV : zV B Z) (hQ : Q (some (v_i (bt (zo (zt Z)) 0 + bt (zo (zt Z)) 1 + bt (zo (zt Z)) 2 + bt (zo (zt Z)) 3))) g) : sp_Met (d + 1) mX6_contestsOn [v_r 52] g Q := by
  refine sp_of (L := [_, _, _]) (by decide) (Nat.le_of_ble_eq_true rfl) rfl rfl ?_
  rw [← sI_4] at hQ
  refine aw_iconst dX6_contestsOn_0 ?_
  refine aw_istore_n (L2 := [_, _, _]) dX6_contestsOn_1 (by decide) rfl rfl ?_
  refine aw_iconst dX6_contestsOn_2 ?_
  refine aw_istore_n (L2 := [_, _, _]) dX6_contestsOn_3 (by decide) rfl rfl ?_
  exact lX6_con d hR hV hQ 4 0 0 (by omega) (by omega) rfl
