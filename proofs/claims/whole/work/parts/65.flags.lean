def sp_sl : List (Nat × Nat) := [(0, 0), (0, 1), (0, 2), (0, 3), (0, 4), (1, 0), (1, 1), (1, 2), (5, 0), (7, 0), (7, 1), (7, 2), (11, 0), (11, 1), (11, 2), (15, 0), (15, 1), (15, 2), (19, 0), (19, 1), (19, 2), (23, 0), (23, 1), (23, 2), (27, 0), (27, 1), (27, 2), (31, 0), (31, 1), (31, 2), (35, 0), (35, 1), (35, 2), (39, 0), (39, 1), (39, 2), (39, 3), (39, 4), (45, 3), (45, 4), (45, 5), (49, 0), (49, 2), (52, 0), (52, 1), (52, 3), (52, 4), (52, 5), (52, 8), (52, 9), (52, 10), (52, 11), (52, 13), (52, 14), (52, 15), (52, 16), (52, 18)]
theorem sp_all {f : sp_Fl} (h : ∀ o k, (o, k) ∈ sp_sl → f o k = true) (h6 : ∀ j, j < 8 → f 6 j = true) : allF f := by
  refine ⟨fun o ci fl k r hs hk => ?_, fun o ki n hh j hs hj => ?_⟩
  · have ho : o < 67 := (List.getElem?_eq_some_iff.mp hs).1
    have key : ∀ o : Nat, o < 67 → sp_sh[o]? = some (.inl (ci, fl)) → f o k = true := by
      intro o ho hs
      match o, ho with
      | 0, _ =>
        cases hs
        match k with
        | 0 => exact h 0 0 (by decide)
        | 1 => exact h 0 1 (by decide)
        | 2 => exact h 0 2 (by decide)
        | 3 => exact h 0 3 (by decide)
        | 4 => exact h 0 4 (by decide)
        | 5 => cases hk
        | 6 => cases hk
        | 7 => cases hk
        | n + 8 => cases hk
      | 1, _ =>
        cases hs
        match k with
        | 0 => exact h 1 0 (by decide)
        | 1 => exact h 1 1 (by decide)
        | 2 => exact h 1 2 (by decide)
        | 3 => cases hk
        | n + 4 => cases hk
      | 2, _ => cases hs
      | 3, _ => cases hs
      | 4, _ => cases hs
      | 5, _ =>
        cases hs
        match k with
        | 0 => exact h 5 0 (by decide)
        | 1 => cases hk
        | 2 => cases hk
        | n + 3 => cases hk
      | 6, _ => cases hs
      | 7, _ =>
        cases hs
        match k with
        | 0 => exact h 7 0 (by decide)
        | 1 => exact h 7 1 (by decide)
        | 2 => exact h 7 2 (by decide)
        | 3 => cases hk
        | n + 4 => cases hk
      | 8, _ => cases hs
      | 9, _ => cases hs
      | 10, _ => cases hs
      | 11, _ =>
        cases hs
        match k with
        | 0 => exact h 11 0 (by decide)
        | 1 => exact h 11 1 (by decide)
        | 2 => exact h 11 2 (by decide)
        | 3 => cases hk
        | n + 4 => cases hk
      | 12, _ => cases hs
      | 13, _ => cases hs
      | 14, _ => cases hs
      | 15, _ =>
        cases hs
        match k with
        | 0 => exact h 15 0 (by decide)
        | 1 => exact h 15 1 (by decide)
        | 2 => exact h 15 2 (by decide)
        | 3 => cases hk
        | n + 4 => cases hk
      | 16, _ => cases hs
      | 17, _ => cases hs
      | 18, _ => cases hs
      | 19, _ =>
        cases hs
        match k with
        | 0 => exact h 19 0 (by decide)
        | 1 => exact h 19 1 (by decide)
        | 2 => exact h 19 2 (by decide)
        | 3 => cases hk
        | n + 4 => cases hk
      | 20, _ => cases hs
      | 21, _ => cases hs
      | 22, _ => cases hs
      | 23, _ =>
        cases hs
        match k with
        | 0 => exact h 23 0 (by decide)
        | 1 => exact h 23 1 (by decide)
        | 2 => exact h 23 2 (by decide)
        | 3 => cases hk
        | n + 4 => cases hk
      | 24, _ => cases hs
      | 25, _ => cases hs
      | 26, _ => cases hs
      | 27, _ =>
        cases hs
        match k with
        | 0 => exact h 27 0 (by decide)
        | 1 => exact h 27 1 (by decide)
        | 2 => exact h 27 2 (by decide)
        | 3 => cases hk
        | n + 4 => cases hk
      | 28, _ => cases hs
      | 29, _ => cases hs
      | 30, _ => cases hs
      | 31, _ =>
        cases hs
        match k with
        | 0 => exact h 31 0 (by decide)
        | 1 => exact h 31 1 (by decide)
        | 2 => exact h 31 2 (by decide)
        | 3 => cases hk
        | n + 4 => cases hk
      | 32, _ => cases hs
      | 33, _ => cases hs
      | 34, _ => cases hs
      | 35, _ =>
        cases hs
        match k with
        | 0 => exact h 35 0 (by decide)
        | 1 => exact h 35 1 (by decide)
        | 2 => exact h 35 2 (by decide)
        | 3 => cases hk
        | n + 4 => cases hk
      | 36, _ => cases hs
      | 37, _ => cases hs
      | 38, _ => cases hs
      | 39, _ =>
        cases hs
        match k with
        | 0 => exact h 39 0 (by decide)
        | 1 => exact h 39 1 (by decide)
        | 2 => exact h 39 2 (by decide)
        | 3 => exact h 39 3 (by decide)
        | 4 => exact h 39 4 (by decide)
        | 5 => cases hk
        | n + 6 => cases hk
      | 40, _ => cases hs
      | 41, _ => cases hs
      | 42, _ => cases hs
      | 43, _ => cases hs
      | 44, _ => cases hs
      | 45, _ =>
        cases hs
        match k with
        | 0 => cases hk
        | 1 => cases hk
        | 2 => cases hk
        | 3 => exact h 45 3 (by decide)
        | 4 => exact h 45 4 (by decide)
        | 5 => exact h 45 5 (by decide)
        | 6 => cases hk
        | 7 => cases hk
        | 8 => cases hk
        | 9 => cases hk
        | n + 10 => cases hk
      | 46, _ => cases hs
      | 47, _ => cases hs
      | 48, _ => cases hs
      | 49, _ =>
        cases hs
        match k with
        | 0 => exact h 49 0 (by decide)
        | 1 => cases hk
        | 2 => exact h 49 2 (by decide)
        | 3 => cases hk
        | 4 => cases hk
        | 5 => cases hk
        | 6 => cases hk
        | n + 7 => cases hk
      | 50, _ => cases hs
      | 51, _ => cases hs
      | 52, _ =>
        cases hs
        match k with
        | 0 => exact h 52 0 (by decide)
        | 1 => exact h 52 1 (by decide)
        | 2 => cases hk
        | 3 => exact h 52 3 (by decide)
        | 4 => exact h 52 4 (by decide)
        | 5 => exact h 52 5 (by decide)
        | 6 => cases hk
        | 7 => cases hk
        | 8 => exact h 52 8 (by decide)
        | 9 => exact h 52 9 (by decide)
        | 10 => exact h 52 10 (by decide)
        | 11 => exact h 52 11 (by decide)
        | 12 => cases hk
        | 13 => exact h 52 13 (by decide)
        | 14 => exact h 52 14 (by decide)
        | 15 => exact h 52 15 (by decide)
        | 16 => exact h 52 16 (by decide)
        | 17 => cases hk
        | 18 => exact h 52 18 (by decide)
        | 19 => cases hk
        | n + 20 => cases hk
      | 53, _ => cases hs
      | 54, _ => cases hs
      | 55, _ => cases hs
      | 56, _ => cases hs
      | 57, _ => cases hs
      | 58, _ => cases hs
      | 59, _ => cases hs
      | 60, _ => cases hs
      | 61, _ => cases hs
      | 62, _ => cases hs
      | 63, _ => cases hs
      | 64, _ => cases hs
      | 65, _ => cases hs
      | 66, _ => cases hs
      | n + 67, ho => omega
    exact key o ho hs
  · have ho : o < 67 := (List.getElem?_eq_some_iff.mp hs).1
    by_cases c : o = 6
    · subst c
      cases hs
      exact h6 j hj
    · exfalso
      have key : ∀ o : Nat, o < 67 → o ≠ 6 → sp_sh[o]? ≠ some (.inr (ki, n, some hh)) := by
        intro o ho hne hs
        match o, ho with
        | 0, _ => cases hs
        | 1, _ => cases hs
        | 2, _ => cases hs
        | 3, _ => cases hs
        | 4, _ => cases hs
        | 5, _ => cases hs
        | 6, _ => exact hne rfl
        | 7, _ => cases hs
        | 8, _ => cases hs
        | 9, _ => cases hs
        | 10, _ => cases hs
        | 11, _ => cases hs
        | 12, _ => cases hs
        | 13, _ => cases hs
        | 14, _ => cases hs
        | 15, _ => cases hs
        | 16, _ => cases hs
        | 17, _ => cases hs
        | 18, _ => cases hs
        | 19, _ => cases hs
        | 20, _ => cases hs
        | 21, _ => cases hs
        | 22, _ => cases hs
        | 23, _ => cases hs
        | 24, _ => cases hs
        | 25, _ => cases hs
        | 26, _ => cases hs
        | 27, _ => cases hs
        | 28, _ => cases hs
        | 29, _ => cases hs
        | 30, _ => cases hs
        | 31, _ => cases hs
        | 32, _ => cases hs
        | 33, _ => cases hs
        | 34, _ => cases hs
        | 35, _ => cases hs
        | 36, _ => cases hs
        | 37, _ => cases hs
        | 38, _ => cases hs
        | 39, _ => cases hs
        | 40, _ => cases hs
        | 41, _ => cases hs
        | 42, _ => cases hs
        | 43, _ => cases hs
        | 44, _ => cases hs
        | 45, _ => cases hs
        | 46, _ => cases hs
        | 47, _ => cases hs
        | 48, _ => cases hs
        | 49, _ => cases hs
        | 50, _ => cases hs
        | 51, _ => cases hs
        | 52, _ => cases hs
        | 53, _ => cases hs
        | 54, _ => cases hs
        | 55, _ => cases hs
        | 56, _ => cases hs
        | 57, _ => cases hs
        | 58, _ => cases hs
        | 59, _ => cases hs
        | 60, _ => cases hs
        | 61, _ => cases hs
        | 62, _ => cases hs
        | 63, _ => cases hs
        | 64, _ => cases hs
        | 65, _ => cases hs
        | 66, _ => cases hs
        | n + 67, ho => omega
      exact key o ho c hs
