/-- the first state -/
def zI : zZ := ((fun _ => 1, fun _ => 0, fun _ => 2, 1), fun _ => (fun _ => 0, fun _ => 0, fun _ => 0, 0), 0, fun k => if k = 0 then 2 else if k = 1 then 12 else 0, fun _ => 0, 0)
theorem zI_V : zV 0 zI := by
  refine ⟨⟨fun _ _ _ => show (0 : Int) ≤ 1 ∧ (1 : Int) ≤ 99 by omega, fun _ _ _ => show (0 : Int) ≤ 0 ∧ (0 : Int) ≤ 5 by omega, fun _ _ _ => show (1 : Int) ≤ 2 ∧ (2 : Int) ≤ 8 by omega, by decide, by decide⟩, ⟨by decide, by decide⟩, fun j j0 j1 => ?_, ⟨⟨by decide, by decide⟩, ⟨by decide, by decide⟩, ⟨by decide, by decide⟩⟩, ⟨⟨by decide, by decide⟩, ⟨by decide, by decide⟩, ⟨by decide, by decide⟩⟩, ⟨by decide, by decide⟩, fun i i0 i1 => ?_⟩
  · have j1 : j < 0 := j1
    omega
  · have i1 : i < 0 := i1
    omega
theorem cI {g : sp_G} (h2 : rH g 2 0 24 (fun _ => 1)) (h3 : ∀ j, g 3 j = 0) (h4 : rH g 4 0 24 (fun _ => 2)) (h1 : g 1 3 = 1) (h5 : g 5 1 = 0 ∧ g 5 2 = 0) (h45 : g 45 0 = 2 ∧ g 45 1 = 12 ∧ g 45 2 = 0) (h0 : g 0 5 = 0 ∧ g 0 6 = 0 ∧ g 0 7 = 0) (h49 : g 49 1 = 0) : cRep g zI := by
  refine ⟨⟨h2, fun i j _ _ _ => h3 j, h4, h1⟩, by rw [h5.1]; decide, h5.2, fun j j0 j1 => ?_, h45, h0, h49, fun i j i0 i1 => ?_⟩
  · have j1 : j < 0 := j1
    omega
  · have i1 : i < 0 := i1
    omega
theorem mI {g : sp_G} (hs : ∀ j, g 53 j = if 0 ≤ j ∧ j < 24 then 1 else if 120 ≤ j ∧ j < 144 then 2 else if j = 144 then 1 else 0) (h2 : g 52 2 = 0 ∧ g 52 6 = 0) (h55 : g 55 0 = 2 ∧ g 55 1 = 12 ∧ g 55 2 = 0) (h56 : ∀ j, g 56 j = 0) (h59 : rH g 59 0 24 wds) : mRep g zI := by
  refine ⟨fun i j i0 i1 e => ?_, h2.1, fun j j0 j1 => ?_, h55, ⟨h56 0, h56 1, h56 2⟩, h2.2, fun i j i0 i1 => ?_, h59⟩
  · rw [hs j]
    show _ = if i < 24 then (1 : Int) else if i < 120 then 0 else if i < 144 then 2 else 1
    by_cases a : i < 24
    · rw [if_pos (by omega), if_pos a]
    · rw [if_neg (by omega), if_neg a]
      by_cases b : i < 120
      · rw [if_neg (by omega), if_neg (by omega), if_pos b]
      · rw [if_neg b]
        by_cases c : i < 144
        · rw [if_pos (by omega), if_pos c]
        · rw [if_neg (by omega), if_pos (by omega), if_neg c]
  · have j1 : j < 0 := j1
    omega
  · have i1 : i < 0 := i1
    omega
