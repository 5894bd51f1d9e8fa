/-- the first state -/
def zI : zZ := ((fun _ => 1, fun _ => 0, fun _ => 2, 1), fun _ => (fun _ => 0, fun _ => 0, fun _ => 0, 0), 0, fun k => if k = 0 then 2 else if k = 1 then 12 else 0, fun _ => 0, 0)
theorem zI_V : zV 0 zI := by
  refine ⟨⟨fun _ _ _ => show (0 : Int) ≤ 1 ∧ (1 : Int) ≤ 99 by omega, fun _ _ _ => show (0 : Int) ≤ 0 ∧ (0 : Int) ≤ 5 by omega, fun _ _ _ => show (1 : Int) ≤ 2 ∧ (2 : Int) ≤ 8 by omega, by decide, by decide⟩, ⟨by decide, by decide⟩, fun j j0 j1 => ?_, ⟨⟨by decide, by decide⟩, ⟨by decide, by decide⟩, ⟨by decide, by decide⟩⟩, ⟨⟨by decide, by decide⟩, ⟨by decide, by decide⟩, ⟨by decide, by decide⟩⟩, ⟨by decide, by decide⟩, fun i i0 i1 => ?_⟩
  · have j1 : j < 0 := j1
    omega
  · have i1 : i < 0 := i1
    omega
