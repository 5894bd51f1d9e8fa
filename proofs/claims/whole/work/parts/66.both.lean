def sp_s5 : List (Nat × Nat) := [(0, 0), (0, 1), (0, 2), (0, 3), (0, 4), (1, 0), (1, 1), (1, 2), (5, 0), (7, 0), (7, 1), (7, 2), (11, 0), (11, 1), (11, 2), (15, 0), (15, 1), (15, 2), (19, 0), (19, 1), (19, 2), (23, 0), (23, 1), (23, 2), (27, 0), (27, 1), (27, 2), (31, 0), (31, 1), (31, 2), (35, 0), (35, 1), (35, 2), (39, 0), (39, 1), (39, 2), (39, 3), (39, 4), (45, 3), (45, 4), (45, 5), (49, 0), (49, 2)]
def Q5 : sp_BQ := fun n g f => n = 52 ∧ (rH g 2 0 24 (fun _ => 1) ∧ (∀ j, g 3 j = 0) ∧ rH g 4 0 24 (fun _ => 2) ∧ g 1 3 = 1) ∧ ((g 5 1 = 0 ∧ g 5 2 = 0) ∧ (g 45 0 = 2 ∧ g 45 1 = 12 ∧ g 45 2 = 0) ∧ (g 0 5 = 0 ∧ g 0 6 = 0 ∧ g 0 7 = 0) ∧ g 49 1 = 0) ∧ (∀ p, 52 ≤ p → ∀ j, g p j = 0) ∧ (∀ p, 52 ≤ p → ∀ k, f p k = false) ∧ (∀ q ∈ sp_s5, f q.1 q.2 = true) ∧ ∀ j, j < 8 → f 6 j = true
theorem bX5 (d : Nat) : sp_BMet (d + 3) 51 1776 mX5_init 0 1 (fun _ _ => 0) (fun _ _ => false) Q5 := by
  refine iX5 d (fun _ _ => rfl) (fun _ _ => rfl) (fun ga gb fb a1 a3 a4 a5 hI => ?_)
  obtain ⟨i1, i2, i3, i4, i5, i6, i7, i8⟩ := hI
  have gN : ∀ p, p ≠ 0 → p ≠ 39 → p ≠ 45 → p ≠ 49 → ∀ j, (sp_up (sp_up (sp_up (sp_up (sp_up (sp_up (sp_up (sp_up (sp_up (sp_up (sp_up (sp_up (sp_up (sp_up (sp_up (sp_up (gb) 39 5 0) 45 0 2) 45 1 12) 45 2 0) 45 6 0) 45 7 0) 45 8 0) 45 9 0) 49 1 0) 49 3 0) 49 4 0) 49 5 0) 49 6 0) 0 5 0) 0 6 0) 0 7 0) p j = gb p j := fun p q0 q1 q2 q3 j => by
    simp only [sp_up, if_neg q0, if_neg q1, if_neg q2, if_neg q3]
  refine ⟨rfl, ⟨fun i j a b e => ?_, fun j => ?_, fun i j a b e => ?_, ?_⟩, ⟨⟨?_, ?_⟩, ⟨by simp [sp_up], by simp [sp_up], by simp [sp_up]⟩, ⟨by simp [sp_up], by simp [sp_up], by simp [sp_up]⟩, by simp [sp_up]⟩, fun p hp j => ?_, fun p hp k => ?_, ?_, fun j hj => ?_⟩
  · rw [gN 2 (by decide) (by decide) (by decide) (by decide), i1 2 (by decide)]; exact a4 i j a b e
  · rw [gN 3 (by decide) (by decide) (by decide) (by decide), i1 3 (by decide), a1 3 (by decide)]
  · rw [gN 4 (by decide) (by decide) (by decide) (by decide), i1 4 (by decide)]; exact a5 i j a b e
  · rw [gN 1 (by decide) (by decide) (by decide) (by decide), i1 1 (by decide)]; exact a3
  · rw [gN 5 (by decide) (by decide) (by decide) (by decide)]; exact i3.1
  · rw [gN 5 (by decide) (by decide) (by decide) (by decide)]; exact i3.2
  · rw [gN p (by omega) (by omega) (by omega) (by omega)]; exact i2 p (by omega) j
  · repeat rw [sp_fs_o _ (by omega)]
    exact i5 p (by omega) k
  · simp only [sp_s5, List.forall_mem_cons]
    refine ⟨by simp [sp_fs]; rw [i4 0 (by decide)]; simp [sp_fs], by simp [sp_fs], by simp [sp_fs], by simp [sp_fs], by simp [sp_fs], by simp [sp_fs]; rw [i4 1 (by decide)]; simp [sp_fs, sp_f3], by simp [sp_fs]; rw [i4 1 (by decide)]; simp [sp_fs, sp_f3], by simp [sp_fs]; rw [i4 1 (by decide)]; simp [sp_fs, sp_f3], by simp [sp_fs]; exact i6, by simp [sp_fs]; exact (i8 0 (by decide)).1, by simp [sp_fs]; exact (i8 0 (by decide)).2.1, by simp [sp_fs]; exact (i8 0 (by decide)).2.2, by simp [sp_fs]; exact (i8 1 (by decide)).1, by simp [sp_fs]; exact (i8 1 (by decide)).2.1, by simp [sp_fs]; exact (i8 1 (by decide)).2.2, by simp [sp_fs]; exact (i8 2 (by decide)).1, by simp [sp_fs]; exact (i8 2 (by decide)).2.1, by simp [sp_fs]; exact (i8 2 (by decide)).2.2, by simp [sp_fs]; exact (i8 3 (by decide)).1, by simp [sp_fs]; exact (i8 3 (by decide)).2.1, by simp [sp_fs]; exact (i8 3 (by decide)).2.2, by simp [sp_fs]; exact (i8 4 (by decide)).1, by simp [sp_fs]; exact (i8 4 (by decide)).2.1, by simp [sp_fs]; exact (i8 4 (by decide)).2.2, by simp [sp_fs]; exact (i8 5 (by decide)).1, by simp [sp_fs]; exact (i8 5 (by decide)).2.1, by simp [sp_fs]; exact (i8 5 (by decide)).2.2, by simp [sp_fs]; exact (i8 6 (by decide)).1, by simp [sp_fs]; exact (i8 6 (by decide)).2.1, by simp [sp_fs]; exact (i8 6 (by decide)).2.2, by simp [sp_fs]; exact (i8 7 (by decide)).1, by simp [sp_fs]; exact (i8 7 (by decide)).2.1, by simp [sp_fs]; exact (i8 7 (by decide)).2.2, by simp [sp_fs], by simp [sp_fs], by simp [sp_fs], by simp [sp_fs], by simp [sp_fs], by simp [sp_fs], by simp [sp_fs], by simp [sp_fs], by simp [sp_fs], by simp [sp_fs], fun q hq => nomatch hq⟩
  · repeat rw [sp_fs_o _ (by decide)]
    exact i7 j hj
