theorem fb_holes : ∀ (m n : Nat) (f : Nat → Nat), (∀ i, i < n → f i < m) → (∀ i j, i < j → j < n → f i ≠ f j) → n ≤ m := by
  intro m
  induction m with
  | zero =>
    intro n f h1 _
    rcases Nat.eq_zero_or_pos n with h | h
    · omega
    · exact absurd (h1 0 h) (Nat.not_lt_zero _)
  | succ m ih =>
    intro n f h1 h2
    by_cases hx : ∃ i, i < n ∧ f i = m
    · obtain ⟨a, ha, hfa⟩ := hx
      have hg := ih (n - 1) (fun i => if i < a then f i else f (i + 1)) (by
        intro i hi
        by_cases q : i < a
        · simp only [if_pos q]
          have b1 := h1 i (by omega)
          have b2 := h2 i a q ha
          omega
        · simp only [if_neg q]
          have b1 := h1 (i + 1) (by omega)
          have b2 := h2 a (i + 1) (by omega) (by omega)
          omega) (by
        intro i j hij hj
        by_cases q : i < a
        · by_cases r : j < a
          · simp only [if_pos q, if_pos r]
            exact h2 i j hij (by omega)
          · simp only [if_pos q, if_neg r]
            exact h2 i (j + 1) (by omega) (by omega)
        · have r : ¬ j < a := by omega
          simp only [if_neg q, if_neg r]
          exact h2 (i + 1) (j + 1) (by omega) (by omega))
      omega
    · have hg := ih n f (fun i hi => by
        have b1 := h1 i hi
        have b2 : f i ≠ m := fun e => hx ⟨i, hi, e⟩
        omega) h2
      omega
/-- blocks of a style that hang together over sides -/
def cn (y : Int → Int) (s a b : Int) : Prop := ∀ S : Int → Prop, S a → (∀ c e, 0 ≤ c → c < 24 → 0 ≤ e → e < 24 → S c → adj c e → y e = s → S e) → S b
theorem cn_rf {y : Int → Int} {s a : Int} : cn y s a a := fun _ h _ => h
theorem cn_st {y : Int → Int} {s a c e : Int} (h : cn y s a c) (hc : 0 ≤ c ∧ c < 24) (he : 0 ≤ e ∧ e < 24) (hce : adj c e) (hy : y e = s) : cn y s a e := fun S h0 h1 => h1 c e hc.1 hc.2 he.1 he.2 (h S h0 h1) hce hy
theorem cn_tr {y : Int → Int} {s a b c : Int} (h : cn y s a b) (h2 : cn y s b c) : cn y s a c := h2 (fun x => cn y s a x) h (fun u v u0 u1 v0 v1 hu huv hv => cn_st hu ⟨u0, u1⟩ ⟨v0, v1⟩ huv hv)
theorem cn_y {y : Int → Int} {s a b : Int} (ha : y a = s) (h : cn y s a b) : y b = s := h (fun x => y x = s) ha (fun _ _ _ _ _ _ _ _ hv => hv)
/-- no more than 24 blocks in a row of unlike ones -/
theorem q_holes {q : Int → Int} {t : Int} (ht : 0 ≤ t) (hr : ∀ i, 0 ≤ i → i < t → 0 ≤ q i ∧ q i < 24) (hd : ∀ i j, 0 ≤ i → i < t → 0 ≤ j → j < t → q i = q j → i = j) : t ≤ 24 := by
  have := fb_holes 24 t.toNat (fun i => (q i).toNat) (fun i hi => by have := hr i (by omega) (by omega); omega) (fun i j hij hj e => by
    have h1 := hr i (by omega) (by omega)
    have h2 := hr j (by omega) (by omega)
    have := hd i j (by omega) (by omega) (by omega) (by omega) (by omega)
    omega)
  omega
/-- a block that begins a part of its style -/
noncomputable def pP (y : Int → Int) (s : Int) : Int → Int := fun c => @ite Int (y c = s ∧ ∀ b, 0 ≤ b → b < c → y b = s → ¬ cn y s b c) (Classical.propDecidable _) 1 0
theorem pP_1 {y : Int → Int} {s c : Int} (h : y c = s) (h2 : ∀ b, 0 ≤ b → b < c → y b = s → ¬ cn y s b c) : pP y s c = 1 := by
  unfold pP
  rw [if_pos ⟨h, h2⟩]
theorem pP_0 {y : Int → Int} {s c : Int} (h : ¬ (y c = s ∧ ∀ b, 0 ≤ b → b < c → y b = s → ¬ cn y s b c)) : pP y s c = 0 := by
  unfold pP
  rw [if_neg h]
theorem pP_b {y : Int → Int} {s : Int} (c : Int) : 0 ≤ pP y s c ∧ pP y s c ≤ 1 := by
  by_cases h : y c = s ∧ ∀ b, 0 ≤ b → b < c → y b = s → ¬ cn y s b c
  · rw [pP_1 h.1 h.2]; omega
  · rw [pP_0 h]; omega
/-- parts of a style -/
noncomputable def pt (y : Int → Int) (s : Int) : Int := sI (pP y s) 24
theorem pt_b (y : Int → Int) (s : Int) : 0 ≤ pt y s ∧ pt y s ≤ 24 := sI_01 (by omega) (fun i _ _ => pP_b i)
/-- who is gone over when all blocks ahead of a have been looked at -/
def sn_I (y : Int → Int) (s a : Int) (P : Int → Prop) : Prop := ∀ b, 0 ≤ b → b < 24 → (P b ↔ ∃ c, 0 ≤ c ∧ c < a ∧ y c = s ∧ cn y s c b)
theorem sn_cl {y : Int → Int} {s a : Int} {P : Int → Prop} (h : sn_I y s a P) {c e : Int} (hc : 0 ≤ c ∧ c < 24) (he : 0 ≤ e ∧ e < 24) (hp : P c) (hce : adj c e) (hy : y e = s) : P e := by
  obtain ⟨x, x0, x1, x2, x3⟩ := (h c hc.1 hc.2).mp hp
  exact (h e he.1 he.2).mpr ⟨x, x0, x1, x2, cn_st x3 hc he hce hy⟩
theorem sn_new {y : Int → Int} {s a : Int} {P P2 : Int → Prop} (h : sn_I y s a P) (ha : 0 ≤ a) (hy : y a = s) (h2 : ∀ b, 0 ≤ b → b < 24 → (P2 b ↔ P b ∨ cn y s a b)) : sn_I y s (a + 1) P2 := by
  intro b b0 b1
  rw [h2 b b0 b1, h b b0 b1]
  constructor
  · rintro (⟨c, c0, c1, c2, c3⟩ | q)
    · exact ⟨c, c0, by omega, c2, c3⟩
    · exact ⟨a, ha, by omega, hy, q⟩
  · rintro ⟨c, c0, c1, c2, c3⟩
    by_cases hc : c = a
    · subst hc; exact Or.inr c3
    · exact Or.inl ⟨c, c0, by omega, c2, c3⟩
theorem sn_old {y : Int → Int} {s a : Int} {P : Int → Prop} (h : sn_I y s a P) (hq : y a = s → ∃ c, 0 ≤ c ∧ c < a ∧ y c = s ∧ cn y s c a) : sn_I y s (a + 1) P := by
  intro b b0 b1
  rw [h b b0 b1]
  constructor
  · rintro ⟨c, c0, c1, c2, c3⟩
    exact ⟨c, c0, by omega, c2, c3⟩
  · rintro ⟨c, c0, c1, c2, c3⟩
    by_cases hc : c = a
    · subst hc
      obtain ⟨x, x0, x1, x2, x3⟩ := hq c2
      exact ⟨x, x0, x1, x2, cn_tr x3 c3⟩
    · exact ⟨c, c0, by omega, c2, c3⟩
