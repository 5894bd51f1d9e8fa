/-- a flood under way: v as it was, w now, by the mark m from block a on -/
def fW (y v w : Int → Int) (s a m : Int) : Prop := w a = m ∧ ∀ b, 0 ≤ b → b < 24 → w b = v b ∨ (w b = m ∧ v b = 0 ∧ y b = s ∧ cn y s a b)
def fCl (y v w : Int → Int) (s m : Int) : Prop := ∀ b c, 0 ≤ b → b < 24 → 0 ≤ c → c < 24 → w c = m → adj b c → y b = s → v b = 0 → w b = m
theorem adj_s {a b : Int} (h : adj a b) : adj b a := by omega
theorem lX6_fl_c (d : Nat) {y v : Int → Int} {s a m t b : Int} {g0 : sp_G} {Q : sp_P} {P : (Int → Int) → Prop} (hyb : ∀ a, 0 ≤ a → a < 24 → 0 ≤ y a ∧ y a < 24) (hs : 0 ≤ s ∧ s < 24) (hya : 0 ≤ a ∧ a < 24) (hm : 1 ≤ m ∧ m ≤ 24) (hvb : ∀ b, 0 ≤ b → b < 24 → 0 ≤ v b ∧ v b < m) (hb : 0 ≤ b ∧ b < 24) (hy0 : rH g0 60 0 24 y)
    (hk : ∀ (g : sp_G) (w : Int → Int) (cx : Option sp_V), sp_fr [62] g0 g → rH g 62 0 24 w → P w → (y b = s → w b = 0 → ∀ c, 0 ≤ c → c < 24 → w c = m → ¬ adj b c) → sp_AW mX6_partsOf (d + 1) 150 [some (v_r 52), some (v_i s), some (v_i m), some (v_i a), some (v_i t), some (v_i b), cx] [] g Q) (hP : ∀ w c, P w → y b = s → w b = 0 → 0 ≤ c → c < 24 → w c = m → adj b c → P (up1 w b m)) (hPb : ∀ w c, P w → 0 ≤ c → c < 24 → 0 ≤ w c ∧ w c ≤ m) :
    ∀ (n : Nat) (c : Int) (g : sp_G) (w : Int → Int), 0 ≤ c → c + n = 24 → sp_fr [62] g0 g → rH g 62 0 24 w → P w → (y b = s → w b = 0 → ∀ x, 0 ≤ x → x < c → w x = m → ¬ adj b x) → sp_AW mX6_partsOf (d + 1) 83 [some (v_r 52), some (v_i s), some (v_i m), some (v_i a), some (v_i t), some (v_i b), some (v_i c)] [] g Q := by
  intro n
  induction n with
  | zero =>
    intro c g w h0 hn hf hw hPw hno
    have ec : c = 24 := by omega
    subst ec
    refine aw_iload dX6_partsOf_83 rfl ?_
    refine aw_bipush dX6_partsOf_85 (by decide) ?_
    refine aw_icmp_ge (tg := 150) dX6_partsOf_87 (by decide) (by omega) (fun h87 => ?_) (fun h87 => absurd h87 (by omega))
    exact hk g w _ hf hw hPw hno
  | succ n ih =>
    intro c g w h0 hn hf hw hPw hno
    have e60 := (hy0.fr hf (by decide)) b b hb.1 hb.2 (by omega)
    have e62 := hw b b hb.1 hb.2 (by omega)
    have e63 := hw c c h0 (by omega) (by omega)
    have b1 := hyb b hb.1 hb.2
    have b2 := hPb w b hPw hb.1 hb.2
    have b3 := hPb w c hPw h0 (by omega)
    have nop : w b = 0 → rH (sp_up g 62 b 0) 62 0 24 w := fun hz => (hw.up (i := b) (x := 0) (by omega)).c (fun i i0 i1 => by
      show (if i = b then 0 else w i) = w i
      by_cases hi : i = b
      · rw [if_pos hi, hi, hz]
      · rw [if_neg hi])
    refine aw_iload dX6_partsOf_83 rfl ?_
    refine aw_bipush dX6_partsOf_85 (by decide) ?_
    refine aw_icmp_ge (tg := 150) dX6_partsOf_87 (by decide) (by omega) (fun h87 => absurd h87 (by omega)) (fun h87 => ?_)
    refine aw_aload_n dX6_partsOf_90 rfl ?_
    refine aw_getR dX6_partsOf_91 flX6_32 rfl rfl ?_
    refine aw_iload dX6_partsOf_94 rfl ?_
    refine aw_iald dX6_partsOf_96 rfl (by omega) ?_
    rw [e60]
    refine aw_iload_n dX6_partsOf_97 rfl ?_
    refine aw_icmp_ne (tg := 150) dX6_partsOf_98 (by decide) (by omega) (fun h98 => ?_) (fun h98 => ?_)
    · exact hk g w _ hf hw hPw (fun q => absurd q h98)
    · refine aw_aload_n dX6_partsOf_101 rfl ?_
      refine aw_getR dX6_partsOf_102 flX6_38 rfl rfl ?_
      refine aw_iload dX6_partsOf_105 rfl ?_
      refine aw_iald dX6_partsOf_107 rfl (by omega) ?_
      rw [e62]
      refine aw_if_ne (tg := 150) dX6_partsOf_108 (by decide) (by omega) (fun h108 => ?_) (fun h108 => ?_)
      · exact hk g w _ hf hw hPw (fun _ q => absurd q h108)
      · refine aw_aload_n dX6_partsOf_111 rfl ?_
        refine aw_getR dX6_partsOf_112 flX6_38 rfl rfl ?_
        refine aw_iload dX6_partsOf_115 rfl ?_
        refine aw_aload_n dX6_partsOf_117 rfl ?_
        refine aw_getR dX6_partsOf_118 flX6_38 rfl rfl ?_
        refine aw_iload dX6_partsOf_121 rfl ?_
        refine aw_iald dX6_partsOf_123 rfl (by omega) ?_
        rw [e63]
        refine aw_iload_n dX6_partsOf_124 rfl ?_
        refine aw_icmp_ne (tg := 142) dX6_partsOf_125 (by decide) (by omega) (fun h125 => ?_) (fun h125 => ?_)
        · refine aw_iconst dX6_partsOf_142 ?_
          refine aw_iast dX6_partsOf_143 rfl (by omega) ?_
          refine aw_iinc (L2 := [_, _, _, _, _, _, _]) dX6_partsOf_144 rfl (by decide) rfl rfl ?_
          refine aw_goto (tg := 83) dX6_partsOf_147 (by decide) ?_
          refine ih (c + 1) _ w (by omega) (by omega) (hf.up (by decide)) (nop h108) hPw (fun q1 q2 x x0 x1 q3 => ?_)
          by_cases hx : x = c
          · rw [hx] at q3; exact absurd q3 h125
          · exact hno q1 q2 x x0 (by omega) q3
        · refine aw_iload dX6_partsOf_128 rfl ?_
          refine aw_iload dX6_partsOf_130 rfl ?_
          refine aw_S2 dX6_partsOf_132 okX6_isBeside lkX6_158 rfl ?_
          refine tX6_isBeside _ hb (by omega) ?_
          refine aw_ifeq_b (tg := 142) dX6_partsOf_135 (by decide) (fun h135 => ?_) (fun h135 => ?_)
          · refine aw_iconst dX6_partsOf_142 ?_
            refine aw_iast dX6_partsOf_143 rfl (by omega) ?_
            refine aw_iinc (L2 := [_, _, _, _, _, _, _]) dX6_partsOf_144 rfl (by decide) rfl rfl ?_
            refine aw_goto (tg := 83) dX6_partsOf_147 (by decide) ?_
            refine ih (c + 1) _ w (by omega) (by omega) (hf.up (by decide)) (nop h108) hPw (fun q1 q2 x x0 x1 q3 => ?_)
            by_cases hx : x = c
            · rw [hx]; exact h135
            · exact hno q1 q2 x x0 (by omega) q3
          · refine aw_iload_n dX6_partsOf_138 rfl ?_
            refine aw_goto (tg := 143) dX6_partsOf_139 (by decide) ?_
            refine aw_iast dX6_partsOf_143 rfl (by omega) ?_
            refine aw_iinc (L2 := [_, _, _, _, _, _, _]) dX6_partsOf_144 rfl (by decide) rfl rfl ?_
            refine aw_goto (tg := 83) dX6_partsOf_147 (by decide) ?_
            refine ih (c + 1) _ (up1 w b m) (by omega) (by omega) (hf.up (by decide)) (hw.up (i := b) (by omega)) (hP w c hPw h98 h108 h0 (by omega) h125 h135) (fun q1 q2 => ?_)
            rw [up1_s] at q2
            omega
/-- what a round over the blocks keeps: nothing of w0's marks goes, a closed flood stays -/
def fR (y v w0 w : Int → Int) (s a m : Int) : Prop := fW y v w s a m ∧ (∀ b, 0 ≤ b → b < 24 → w0 b = m → w b = m) ∧ (fCl y v w0 s m → ∀ b, 0 ≤ b → b < 24 → w b = m → w0 b = m)
theorem fR_s {y v w0 w : Int → Int} {s a m b c : Int} (hya : y a = s) (ha : 0 ≤ a ∧ a < 24) (hm : 1 ≤ m) (hvb : ∀ b, 0 ≤ b → b < 24 → 0 ≤ v b ∧ v b < m) (hva : v a = 0) (h : fR y v w0 w s a m) (hb : 0 ≤ b ∧ b < 24) (hy : y b = s) (hw : w b = 0) (hc : 0 ≤ c ∧ c < 24) (hwc : w c = m) (hbc : adj b c) : fR y v w0 (up1 w b m) s a m := by
  obtain ⟨⟨f1, f2⟩, f3, f4⟩ := h
  have hvb0 : v b = 0 := by
    rcases f2 b hb.1 hb.2 with k | k
    · omega
    · exact k.2.1
  have hcn : cn y s a c := by
    rcases f2 c hc.1 hc.2 with k | k
    · have := hvb c hc.1 hc.2; omega
    · exact k.2.2.2
  refine ⟨⟨?_, fun x x0 x1 => ?_⟩, fun x x0 x1 q => ?_, fun hcl x x0 x1 q => ?_⟩
  · by_cases e : a = b
    · rw [e, up1_s]
    · rw [up1_n _ _ e]; exact f1
  · by_cases e : x = b
    · rw [e, up1_s]; exact Or.inr ⟨rfl, hvb0, hy, cn_st hcn hc hb (adj_s hbc) hy⟩
    · rw [up1_n _ _ e]; exact f2 x x0 x1
  · by_cases e : x = b
    · rw [e, up1_s]
    · rw [up1_n _ _ e]; exact f3 x x0 x1 q
  · by_cases e : x = b
    · exfalso
      have h9 := hcl b c hb.1 hb.2 hc.1 hc.2 (f4 hcl c hc.1 hc.2 hwc) hbc hy hvb0
      have h10 := f3 b hb.1 hb.2 h9
      omega
    · rw [up1_n _ _ e] at q; exact f4 hcl x x0 x1 q
theorem fR_b {y v w0 w : Int → Int} {s a m : Int} (hm : 1 ≤ m) (hvb : ∀ b, 0 ≤ b → b < 24 → 0 ≤ v b ∧ v b < m) (h : fR y v w0 w s a m) (c : Int) (h0 : 0 ≤ c) (h1 : c < 24) : 0 ≤ w c ∧ w c ≤ m := by
  have := hvb c h0 h1
  rcases h.1.2 c h0 h1 with k | k
  · omega
  · omega
theorem lX6_fl_b (d : Nat) {y v w0 : Int → Int} {s a m t : Int} {g0 : sp_G} {Q : sp_P} (hyb : ∀ a, 0 ≤ a → a < 24 → 0 ≤ y a ∧ y a < 24) (hs : 0 ≤ s ∧ s < 24) (hya : 0 ≤ a ∧ a < 24) (hm : 1 ≤ m ∧ m ≤ 24) (hvb : ∀ b, 0 ≤ b → b < 24 → 0 ≤ v b ∧ v b < m) (hyA : y a = s) (hva : v a = 0) (hy0 : rH g0 60 0 24 y)
    (hk : ∀ (g : sp_G) (w : Int → Int) (bx cx : Option sp_V), sp_nl bx = true → sp_fr [62] g0 g → rH g 62 0 24 w → fR y v w0 w s a m → (∀ b, 0 ≤ b → b < 24 → y b = s → w b = 0 → ∀ c, 0 ≤ c → c < 24 → w0 c = m → ¬ adj b c) → sp_AW mX6_partsOf (d + 1) 156 [some (v_r 52), some (v_i s), some (v_i m), some (v_i a), some (v_i t), bx, cx] [] g Q) :
    ∀ (n : Nat) (b : Int) (g : sp_G) (w : Int → Int) (cx : Option sp_V), 0 ≤ b → b + n = 24 → sp_fr [62] g0 g → rH g 62 0 24 w → fR y v w0 w s a m → (∀ x, 0 ≤ x → x < b → y x = s → w x = 0 → ∀ c, 0 ≤ c → c < 24 → w0 c = m → ¬ adj x c) → sp_AW mX6_partsOf (d + 1) 73 [some (v_r 52), some (v_i s), some (v_i m), some (v_i a), some (v_i t), some (v_i b), cx] [] g Q := by
  intro n
  induction n with
  | zero =>
    intro b g w cx h0 hn hf hw hR hno
    have eb : b = 24 := by omega
    subst eb
    refine aw_iload dX6_partsOf_73 rfl ?_
    refine aw_bipush dX6_partsOf_75 (by decide) ?_
    refine aw_icmp_ge (tg := 156) dX6_partsOf_77 (by decide) (by omega) (fun h77 => ?_) (fun h77 => absurd h77 (by omega))
    exact hk g w _ _ rfl hf hw hR hno
  | succ n ih =>
    intro b g w cx h0 hn hf hw hR hno
    refine aw_iload dX6_partsOf_73 rfl ?_
    refine aw_bipush dX6_partsOf_75 (by decide) ?_
    refine aw_icmp_ge (tg := 156) dX6_partsOf_77 (by decide) (by omega) (fun h77 => absurd h77 (by omega)) (fun h77 => ?_)
    refine aw_iconst dX6_partsOf_80 ?_
    refine aw_istore (L2 := [_, _, _, _, _, _, _]) dX6_partsOf_81 (by decide) rfl rfl ?_
    refine lX6_fl_c d (P := fun w => fR y v w0 w s a m ∧ ∀ x, 0 ≤ x → x < b → y x = s → w x = 0 → ∀ c, 0 ≤ c → c < 24 → w0 c = m → ¬ adj x c) hyb hs hya hm hvb (by omega) (hy0.fr hf (by decide)) (fun g2 w2 cx2 f2 hw2 hP2 hno2 => ?_) (fun w2 c hP2 q1 q2 c0 c1 q3 q4 => ⟨fR_s hyA hya hm.1 hvb hva hP2.1 (by omega) q1 q2 ⟨c0, c1⟩ q3 q4, fun x x0 x1 k1 k2 => ?_⟩) (fun w2 c hP2 c0 c1 => fR_b hm.1 hvb hP2.1 c c0 c1) 24 0 g w (by omega) (by omega) sp_fr.rf hw ⟨hR, hno⟩ (fun _ _ x x0 x1 => by omega)
    · refine aw_iinc (L2 := [_, _, _, _, _, _, _]) dX6_partsOf_150 rfl (by decide) rfl rfl ?_
      refine aw_goto (tg := 73) dX6_partsOf_153 (by decide) ?_
      refine ih (b + 1) g2 w2 _ (by omega) (by omega) (hf.tr f2 (by decide)) hw2 hP2.1 (fun x x0 x1 k1 k2 c c0 c1 k3 => ?_)
      by_cases hx : x = b
      · rw [hx] at k1 k2 ⊢
        exact hno2 k1 k2 c c0 c1 (hP2.1.2.1 c c0 c1 k3)
      · exact hP2.2 x x0 (by omega) k1 k2 c c0 c1 k3
    · rw [up1_n _ _ (by omega)] at k2
      exact hP2.2 x x0 x1 k1 k2
theorem lX6_fl_t (d : Nat) {y v : Int → Int} {s a m : Int} {g0 : sp_G} {Q : sp_P} (hyb : ∀ a, 0 ≤ a → a < 24 → 0 ≤ y a ∧ y a < 24) (hs : 0 ≤ s ∧ s < 24) (hya : 0 ≤ a ∧ a < 24) (hm : 1 ≤ m ∧ m ≤ 24) (hvb : ∀ b, 0 ≤ b → b < 24 → 0 ≤ v b ∧ v b < m) (hyA : y a = s) (hva : v a = 0) (hy0 : rH g0 60 0 24 y)
    (hk : ∀ (g : sp_G) (w : Int → Int) (tx bx cx : Option sp_V), sp_fr [62] g0 g → rH g 62 0 24 w → fW y v w s a m → fCl y v w s m → sp_AW mX6_partsOf (d + 1) 162 [some (v_r 52), some (v_i s), some (v_i m), some (v_i a), tx, bx, cx] [] g Q) :
    ∀ (n : Nat) (t : Int) (g : sp_G) (w : Int → Int) (bx cx : Option sp_V), 0 ≤ t → t + n = 24 → sp_fr [62] g0 g → rH g 62 0 24 w → fW y v w s a m → (fCl y v w s m ∨ t + 1 ≤ sI (mk w m) 24) → sp_AW mX6_partsOf (d + 1) 63 [some (v_r 52), some (v_i s), some (v_i m), some (v_i a), some (v_i t), bx, cx] [] g Q := by
  intro n
  induction n with
  | zero =>
    intro t g w bx cx h0 hn hf hw hW hc
    have et : t = 24 := by omega
    subst et
    have hcl : fCl y v w s m := by
      rcases hc with k | k
      · exact k
      · have := mk_24 w m; omega
    refine aw_iload dX6_partsOf_63 rfl ?_
    refine aw_bipush dX6_partsOf_65 (by decide) ?_
    refine aw_icmp_ge (tg := 162) dX6_partsOf_67 (by decide) (by omega) (fun h67 => ?_) (fun h67 => absurd h67 (by omega))
    exact hk g w _ _ _ hf hw hW hcl
  | succ n ih =>
    intro t g w bx cx h0 hn hf hw hW hc
    refine aw_iload dX6_partsOf_63 rfl ?_
    refine aw_bipush dX6_partsOf_65 (by decide) ?_
    refine aw_icmp_ge (tg := 162) dX6_partsOf_67 (by decide) (by omega) (fun h67 => absurd h67 (by omega)) (fun h67 => ?_)
    refine aw_iconst dX6_partsOf_70 ?_
    refine aw_istore (L2 := [_, _, _, _, _, _, _]) dX6_partsOf_71 (by decide) rfl rfl ?_
    refine lX6_fl_b d (w0 := w) hyb hs hya hm hvb hyA hva (hy0.fr hf (by decide)) (fun g2 w2 bx2 cx2 hbx f2 hw2 hR2 hno2 => ?_) 24 0 g w _ (by omega) (by omega) sp_fr.rf hw ⟨hW, fun b b0 b1 q => q, fun _ b b0 b1 q => q⟩ (fun x x0 x1 => by omega)
    refine aw_iinc (L2 := [_, _, _, _, _, _, _]) dX6_partsOf_156 rfl (by decide) rfl rfl ?_
    refine aw_goto (tg := 63) dX6_partsOf_159 (by decide) ?_
    refine ih (t + 1) g2 w2 _ _ (by omega) (by omega) (hf.tr f2 (by decide)) hw2 hR2.1 ?_
    have hle := mk_le (v := w) (w := w2) (m := m) (n := 24) (by omega) hR2.2.1
    have hclo : (∀ b, 0 ≤ b → b < 24 → w2 b = m → w b = m) → fCl y v w2 s m := by
      intro hsame b c b0 b1 c0 c1 q1 q2 q3 q4
      have hb2 := fR_b hm.1 hvb hR2 b b0 b1
      rcases hR2.1.2 b b0 b1 with k | k
      · exact absurd q2 (hno2 b b0 b1 q3 (by omega) c c0 c1 (hsame c c0 c1 q1))
      · exact k.1
    rcases hc with k | k
    · exact Or.inl (hclo (hR2.2.2 k))
    · by_cases e : sI (mk w m) 24 = sI (mk w2 m) 24
      · exact Or.inl (hclo (hle.2 e))
      · exact Or.inr (by omega)
theorem lX6_par2 (d : Nat) {y : Int → Int} {s : Int} {g0 : sp_G} {Q : sp_P} (hyb : ∀ a, 0 ≤ a → a < 24 → 0 ≤ y a ∧ y a < 24) (hs : 0 ≤ s ∧ s < 24) (hy0 : rH g0 60 0 24 y) (hQ : ∀ g : sp_G, sp_fr [62] g0 g → Q (some (v_i (pt y s))) g) :
    ∀ (n : Nat) (a m : Int) (g : sp_G) (v : Int → Int) (tx bx cx : Option sp_V), 0 ≤ a → a + n = 24 → m = sI (pP y s) a → sp_fr [62] g0 g → rH g 62 0 24 v → (∀ b, 0 ≤ b → b < 24 → (0 ≤ v b ∧ v b ≤ m) ∧ (v b ≠ 0 → y b = s)) → sn_I y s a (fun b => v b ≠ 0) → sp_AW mX6_partsOf (d + 1) 25 [some (v_r 52), some (v_i s), some (v_i m), some (v_i a), tx, bx, cx] [] g Q := by
  intro n
  induction n with
  | zero =>
    intro a m g v tx bx cx h0 hn em hf hv hvb hI
    have ea : a = 24 := by omega
    subst ea
    refine aw_iload_n dX6_partsOf_25 rfl ?_
    refine aw_bipush dX6_partsOf_26 (by decide) ?_
    refine aw_icmp_ge (tg := 168) dX6_partsOf_28 (by decide) (by omega) (fun h28 => ?_) (fun h28 => absurd h28 (by omega))
    refine aw_iload_n dX6_partsOf_168 rfl ?_
    refine aw_iret dX6_partsOf_169 rfl ?_
    rw [em]
    exact hQ g hf
  | succ n ih =>
    intro a m g v tx bx cx h0 hn em hf hv hvb hI
    have e60 := (hy0.fr hf (by decide)) a a h0 (by omega) (by omega)
    have e62 := hv a a h0 (by omega) (by omega)
    have b1 := hyb a h0 (by omega)
    have b2 := hvb a h0 (by omega)
    have hIa := hI a h0 (by omega)
    have mb : 0 ≤ m ∧ m ≤ a := by rw [em]; exact sI_01 h0 (fun i _ _ => pP_b i)
    refine aw_iload_n dX6_partsOf_25 rfl ?_
    refine aw_bipush dX6_partsOf_26 (by decide) ?_
    refine aw_icmp_ge (tg := 168) dX6_partsOf_28 (by decide) (by omega) (fun h28 => absurd h28 (by omega)) (fun h28 => ?_)
    refine aw_aload_n dX6_partsOf_31 rfl ?_
    refine aw_getR dX6_partsOf_32 flX6_32 rfl rfl ?_
    refine aw_iload_n dX6_partsOf_35 rfl ?_
    refine aw_iald dX6_partsOf_36 rfl (by omega) ?_
    rw [e60]
    refine aw_iload_n dX6_partsOf_37 rfl ?_
    refine aw_icmp_ne (tg := 162) dX6_partsOf_38 (by decide) (by omega) (fun h38 => ?_) (fun h38 => ?_)
    · refine aw_iinc (L2 := [_, _, _, _, _, _, _]) dX6_partsOf_162 rfl (by decide) rfl rfl ?_
      refine aw_goto (tg := 25) dX6_partsOf_165 (by decide) ?_
      have hp0 : pP y s a = 0 := pP_0 (fun q => h38 q.1)
      exact ih (a + 1) _ g v _ _ _ (by omega) (by omega) (by rw [sI_s _ h0, hp0, em]; omega) hf hv hvb (sn_old hI (fun q => absurd q h38))
    · refine aw_aload_n dX6_partsOf_41 rfl ?_
      refine aw_getR dX6_partsOf_42 flX6_38 rfl rfl ?_
      refine aw_iload_n dX6_partsOf_45 rfl ?_
      refine aw_iald dX6_partsOf_46 rfl (by omega) ?_
      rw [e62]
      refine aw_if_ne (tg := 162) dX6_partsOf_47 (by decide) (by omega) (fun h47 => ?_) (fun h47 => ?_)
      · refine aw_iinc (L2 := [_, _, _, _, _, _, _]) dX6_partsOf_162 rfl (by decide) rfl rfl ?_
        refine aw_goto (tg := 25) dX6_partsOf_165 (by decide) ?_
        have hp0 : pP y s a = 0 := pP_0 (fun q => by
          obtain ⟨c, c0, c1, c2, c3⟩ := hIa.mp h47
          exact q.2 c c0 c1 c2 c3)
        exact ih (a + 1) _ g v _ _ _ (by omega) (by omega) (by rw [sI_s _ h0, hp0, em]; omega) hf hv hvb (sn_old hI (fun _ => hIa.mp h47))
      · refine aw_iinc (L2 := [_, _, _, _, _, _, _]) dX6_partsOf_50 rfl (by decide) rfl rfl ?_
        refine aw_aload_n dX6_partsOf_53 rfl ?_
        refine aw_getR dX6_partsOf_54 flX6_38 rfl rfl ?_
        refine aw_iload_n dX6_partsOf_57 rfl ?_
        refine aw_iload_n dX6_partsOf_58 rfl ?_
        refine aw_iast dX6_partsOf_59 rfl (by omega) ?_
        refine aw_iconst dX6_partsOf_60 ?_
        refine aw_istore (L2 := [_, _, _, _, _, _, _]) dX6_partsOf_61 (by decide) rfl rfl ?_
        have hp1 : pP y s a = 1 := pP_1 h38 (fun b b0 b1 b2 b3 => absurd h47 (hIa.mpr ⟨b, b0, b1, b2, b3⟩))
        have hW0 : fW y v (up1 v a (m + 1)) s a (m + 1) := ⟨up1_s _ _ _, fun b b0 b1 => by
          by_cases hb : b = a
          · rw [hb, up1_s]; exact Or.inr ⟨rfl, h47, h38, cn_rf⟩
          · rw [up1_n _ _ hb]; exact Or.inl rfl⟩
        refine lX6_fl_t d (v := v) hyb hs (by omega) (by omega) (fun b b0 b1 => by have := (hvb b b0 b1).1; omega) h38 h47 ((hy0.fr hf (by decide)).ne (by decide)) (fun g2 w2 tx2 bx2 cx2 f2 hw2 hW2 hC2 => ?_) 24 0 _ (up1 v a (m + 1)) _ _ (by omega) (by omega) sp_fr.rf (hv.up (i := a) (by omega)) hW0 (Or.inr (mk_1 ⟨h0, by omega⟩ (up1_s _ _ _)))
        have hP2 : ∀ b, 0 ≤ b → b < 24 → (w2 b ≠ 0 ↔ v b ≠ 0 ∨ cn y s a b) := by
          intro b b0 b1
          constructor
          · intro q
            rcases hW2.2 b b0 b1 with k | k
            · exact Or.inl (by rw [← k]; exact q)
            · exact Or.inr k.2.2.2
          · rintro (q | q)
            · rcases hW2.2 b b0 b1 with k | k
              · rw [k]; exact q
              · rw [k.1]; omega
            · have := q (fun x => y x = s ∧ w2 x ≠ 0) ⟨h38, by rw [hW2.1]; omega⟩ (fun c e c0 c1 e0 e1 hc hce he => ⟨he, ?_⟩)
              · exact this.2
              · rcases hW2.2 e e0 e1 with k | k
                · rw [k]
                  intro hve
                  rcases hW2.2 c c0 c1 with k2 | k2
                  · have hvc : v c ≠ 0 := by rw [← k2]; exact hc.2
                    exact sn_cl hI ⟨c0, c1⟩ ⟨e0, e1⟩ hvc hce he hve
                  · have := hC2 e c e0 e1 c0 c1 k2.1 (adj_s hce) he hve
                    omega
                · rw [k.1]; omega
        refine aw_iinc (L2 := [_, _, _, _, _, _, _]) dX6_partsOf_162 rfl (by decide) rfl rfl ?_
        refine aw_goto (tg := 25) dX6_partsOf_165 (by decide) ?_
        refine ih (a + 1) (m + 1) g2 w2 _ _ _ (by omega) (by omega) (by rw [sI_s _ h0, hp1, em]) ((hf.up (by decide)).tr f2 (by decide)) hw2 (fun b b0 b1 => ?_) (sn_new hI h0 h38 hP2)
        have := hvb b b0 b1
        rcases hW2.2 b b0 b1 with k | k
        · rw [k]; exact ⟨by omega, this.2⟩
        · exact ⟨by omega, fun _ => k.2.2.1⟩
theorem lX6_par1 (d : Nat) {y : Int → Int} {s : Int} {g0 : sp_G} {Q : sp_P} (hyb : ∀ a, 0 ≤ a → a < 24 → 0 ≤ y a ∧ y a < 24) (hs : 0 ≤ s ∧ s < 24) (hy0 : rH g0 60 0 24 y) (hQ : ∀ g : sp_G, sp_fr [62] g0 g → Q (some (v_i (pt y s))) g) :
    ∀ (n : Nat) (a : Int) (g : sp_G) (tx bx cx : Option sp_V), 0 ≤ a → a + n = 24 → sp_fr [62] g0 g → rH g 62 0 a (fun _ => 0) → sp_AW mX6_partsOf (d + 1) 4 [some (v_r 52), some (v_i s), some (v_i 0), some (v_i a), tx, bx, cx] [] g Q := by
  intro n
  induction n with
  | zero =>
    intro a g tx bx cx h0 hn hf hv
    have ea : a = 24 := by omega
    subst ea
    refine aw_iload_n dX6_partsOf_4 rfl ?_
    refine aw_bipush dX6_partsOf_5 (by decide) ?_
    refine aw_icmp_ge (tg := 23) dX6_partsOf_7 (by decide) (by omega) (fun h7 => ?_) (fun h7 => absurd h7 (by omega))
    refine aw_iconst dX6_partsOf_23 ?_
    refine aw_istore_n (L2 := [_, _, _, _, _, _, _]) dX6_partsOf_24 (by decide) rfl rfl ?_
    refine lX6_par2 d hyb hs hy0 hQ 24 0 0 g _ _ _ _ (by omega) (by omega) rfl hf hv (fun b b0 b1 => ⟨by omega, fun q => absurd rfl q⟩) (fun b b0 b1 => ⟨fun q => absurd rfl q, ?_⟩)
    rintro ⟨c, c0, c1, -⟩
    omega
  | succ n ih =>
    intro a g tx bx cx h0 hn hf hv
    refine aw_iload_n dX6_partsOf_4 rfl ?_
    refine aw_bipush dX6_partsOf_5 (by decide) ?_
    refine aw_icmp_ge (tg := 23) dX6_partsOf_7 (by decide) (by omega) (fun h7 => absurd h7 (by omega)) (fun h7 => ?_)
    refine aw_aload_n dX6_partsOf_10 rfl ?_
    refine aw_getR dX6_partsOf_11 flX6_38 rfl rfl ?_
    refine aw_iload_n dX6_partsOf_14 rfl ?_
    refine aw_iconst dX6_partsOf_15 ?_
    refine aw_iast dX6_partsOf_16 rfl (by omega) ?_
    refine aw_iinc (L2 := [_, _, _, _, _, _, _]) dX6_partsOf_17 rfl (by decide) rfl rfl ?_
    refine aw_goto (tg := 4) dX6_partsOf_20 (by decide) ?_
    refine ih (a + 1) _ _ _ _ (by omega) (by omega) (hf.up (by decide)) (fun i j i0 i1 e => ?_)
    by_cases hi : i = a
    · rw [show j = a by omega, sp_up_s]
    · rw [sp_up_i _ _ _ _ (by omega)]
      exact hv i j i0 (by omega) e
theorem tX6_partsOf (d : Nat) {y : Int → Int} {s : Int} {g : sp_G} {Q : sp_P} (hyb : ∀ a, 0 ≤ a → a < 24 → 0 ≤ y a ∧ y a < 24) (hs : 0 ≤ s ∧ s < 24) (hy0 : rH g 60 0 24 y) (hQ : ∀ g2 : sp_G, sp_fr [62] g g2 → Q (some (v_i (pt y s))) g2) : sp_Met (d + 1) mX6_partsOf [v_r 52, v_i s] g Q := by
  refine sp_of (L := [_, _, _, _, _, _, _]) (by decide) (Nat.le_of_ble_eq_true rfl) rfl rfl ?_
  refine aw_iconst dX6_partsOf_0 ?_
  refine aw_istore_n (L2 := [_, _, _, _, _, _, _]) dX6_partsOf_1 (by decide) rfl rfl ?_
  refine aw_iconst dX6_partsOf_2 ?_
  refine aw_istore_n (L2 := [_, _, _, _, _, _, _]) dX6_partsOf_3 (by decide) rfl rfl ?_
  exact lX6_par1 d hyb hs hy0 hQ 24 0 g _ _ _ (by omega) (by omega) sp_fr.rf (fun i j i0 i1 => by omega)
