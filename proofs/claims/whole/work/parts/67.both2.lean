def Q6 : sp_BQ := fun n g f => n = 67 ∧ allF f ∧ cRep g zI ∧ mRep g zI
theorem sl_56 : ∀ o k, (o, k) ∈ sp_sl → (o, k) ∈ sp_s5 ∨ o = 52 ∧ k ∈ [0, 1, 3, 4, 5, 8, 9, 10, 11, 13, 14, 15, 16, 18] := by
  have key : ∀ q ∈ sp_sl, q ∈ sp_s5 ∨ q.1 = 52 ∧ q.2 ∈ [0, 1, 3, 4, 5, 8, 9, 10, 11, 13, 14, 15, 16, 18] := by decide +kernel
  exact fun o k h => key (o, k) h
theorem s5_52 : ∀ q ∈ sp_s5, q.1 ≠ 52 := by decide +kernel
theorem bX6 (d : Nat) {g : sp_G} {f : sp_Fl} (h : Q5 52 g f) : sp_BMet (d + 1) 14 1575 mX6_init 52 53 g f Q6 := by
  obtain ⟨-, ⟨h2, h3, h4, h1⟩, ⟨h5, h45, h0, h49⟩, hz, hw, hs5, h6⟩ := h
  refine iX6 d (fun p hp => hz p (by omega)) (fun g1 g2 f1 r1 f2 r2 => ?_)
  have lo : ∀ p, p < 52 → ∀ j, sp_up g2 53 144 1 p j = g p j := fun p hp j => by
    rw [sp_up_o _ _ _ _ (by omega), f2 p (by simp; omega), f1 p (by simp; omega)]
    repeat rw [sp_up_o _ _ _ _ (by omega)]
  have hi : ∀ p, p ≠ 53 → ∀ j, sp_up g2 53 144 1 p j = (sp_up (sp_up (sp_up (sp_up (sp_up (sp_up (sp_up (sp_up (sp_up (sp_up (sp_up (sp_up (sp_up (sp_up (sp_up (sp_up (sp_up (sp_up (sp_up (sp_up (sp_up (sp_up (sp_up (sp_up (sp_up (sp_up (sp_up (g) 55 0 2) 55 1 12) 55 2 0) 59 0 111) 59 1 110) 59 2 32) 59 3 111) 59 4 102) 59 5 102) 59 6 32) 59 7 112) 59 8 117) 59 9 116) 59 10 32) 59 11 110) 59 12 97) 59 13 109) 59 14 101) 59 15 115) 59 16 32) 59 17 118) 59 18 111) 59 19 116) 59 20 101) 59 21 114) 59 22 115) 59 23 32) p j := fun p hp j => by
    rw [sp_up_o _ _ _ _ hp, f2 p (by simpa using hp), f1 p (by simpa using hp)]
  refine ⟨rfl, sp_all (fun o k hk => ?_) (fun j hj => ?_), cI (fun i j a b e => by rw [lo 2 (by decide)]; exact h2 i j a b e) (fun j => by rw [lo 3 (by decide)]; exact h3 j) (fun i j a b e => by rw [lo 4 (by decide)]; exact h4 i j a b e) (by rw [lo 1 (by decide)]; exact h1) (by rw [lo 5 (by decide), lo 5 (by decide)]; exact h5) (by rw [lo 45 (by decide), lo 45 (by decide), lo 45 (by decide)]; exact h45) (by rw [lo 0 (by decide), lo 0 (by decide), lo 0 (by decide)]; exact h0) (by rw [lo 49 (by decide)]; exact h49), mI (fun j => ?_) ⟨?_, ?_⟩ ⟨?_, ?_, ?_⟩ (fun j => ?_) (fun i j i0 i1 e => ?_)⟩
  · rcases sl_56 o k hk with c | c
    · have e := s5_52 _ c
      repeat rw [sp_fs_o _ e]
      exact hs5 _ c
    · rw [c.1]
      have c2 := c.2
      simp only [List.mem_cons, List.not_mem_nil, or_false] at c2
      rcases c2 with q | q | q | q | q | q | q | q | q | q | q | q | q | q <;> subst q <;> simp [sp_fs]
  · repeat rw [sp_fs_o _ (by decide)]
    exact h6 j hj
  · by_cases c : j = 144
    · subst c; rw [sp_up_s]; simp
    · rw [sp_up_i _ _ _ _ c, r2 j, r1 j]
      have e9 : (sp_up (sp_up (sp_up (sp_up (sp_up (sp_up (sp_up (sp_up (sp_up (sp_up (sp_up (sp_up (sp_up (sp_up (sp_up (sp_up (sp_up (sp_up (sp_up (sp_up (sp_up (sp_up (sp_up (sp_up (sp_up (sp_up (sp_up (g) 55 0 2) 55 1 12) 55 2 0) 59 0 111) 59 1 110) 59 2 32) 59 3 111) 59 4 102) 59 5 102) 59 6 32) 59 7 112) 59 8 117) 59 9 116) 59 10 32) 59 11 110) 59 12 97) 59 13 109) 59 14 101) 59 15 115) 59 16 32) 59 17 118) 59 18 111) 59 19 116) 59 20 101) 59 21 114) 59 22 115) 59 23 32) 53 j = 0 := by
        repeat rw [sp_up_o _ _ _ _ (by decide)]
        exact hz 53 (by decide) j
      rw [e9]
      by_cases c2 : 0 ≤ j ∧ j < 24
      · rw [if_neg (by omega), if_pos c2, if_pos c2]
      · rw [if_neg c2, if_neg c2, if_neg c]
  · rw [hi 52 (by decide)]
    repeat rw [sp_up_o _ _ _ _ (by decide)]
    exact hz 52 (by decide) 2
  · rw [hi 52 (by decide)]
    repeat rw [sp_up_o _ _ _ _ (by decide)]
    exact hz 52 (by decide) 6
  · rw [hi 55 (by decide)]; simp [sp_up]
  · rw [hi 55 (by decide)]; simp [sp_up]
  · rw [hi 55 (by decide)]; simp [sp_up]
  · rw [hi 56 (by decide)]
    repeat rw [sp_up_o _ _ _ _ (by decide)]
    exact hz 56 (by decide) j
  · rw [hi 59 (by decide), show j = i by omega]
    obtain ⟨q, rfl⟩ := Int.eq_ofNat_of_zero_le i0
    have hq : q < 24 := by omega
    match q, hq with
    | 0, _ => simp [sp_up, wds]
    | 1, _ => simp [sp_up, wds]
    | 2, _ => simp [sp_up, wds]
    | 3, _ => simp [sp_up, wds]
    | 4, _ => simp [sp_up, wds]
    | 5, _ => simp [sp_up, wds]
    | 6, _ => simp [sp_up, wds]
    | 7, _ => simp [sp_up, wds]
    | 8, _ => simp [sp_up, wds]
    | 9, _ => simp [sp_up, wds]
    | 10, _ => simp [sp_up, wds]
    | 11, _ => simp [sp_up, wds]
    | 12, _ => simp [sp_up, wds]
    | 13, _ => simp [sp_up, wds]
    | 14, _ => simp [sp_up, wds]
    | 15, _ => simp [sp_up, wds]
    | 16, _ => simp [sp_up, wds]
    | 17, _ => simp [sp_up, wds]
    | 18, _ => simp [sp_up, wds]
    | 19, _ => simp [sp_up, wds]
    | 20, _ => simp [sp_up, wds]
    | 21, _ => simp [sp_up, wds]
    | 22, _ => simp [sp_up, wds]
    | 23, _ => simp [sp_up, wds]
    | n + 24, hq => omega
