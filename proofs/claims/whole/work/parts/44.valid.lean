/-! edits keep a town valid -/
theorem tV_sw {T : zT} {l to : Int} (h : tVt T) (hl : 0 ≤ l ∧ l ≤ 3) (ht : 0 ≤ to ∧ to ≤ 1) : tVt (zp T, zd T, zm T, sw (zo T) l to) := ⟨h.1, h.2.1, h.2.2.1, (sw_eq h.2.2.2 ⟨hl.1, by omega⟩ ⟨ht.1, by omega⟩).2⟩
theorem tV_put {T : zT} {l e a b : Int} (h : tVt T) (he : 0 ≤ e ∧ e ≤ 5) : tVt (zp T, pr_D l e a b (zd T) 24, zm T, zo T) := by
  refine ⟨h.1, fun i i0 i1 => ?_, h.2.2.1, h.2.2.2⟩
  show 0 ≤ pr_D l e a b (zd T) 24 i ∧ pr_D l e a b (zd T) 24 i ≤ 5
  unfold pr_D
  split
  · exact he
  · exact h.2.1 i i0 i1
theorem tV_na {T : zT} {k n : Int} (h : tVt T) (hn : 1 ≤ n ∧ n ≤ 8) : tVt (zp T, zd T, up1 (zm T) k n, zo T) := by
  refine ⟨h.1, h.2.1, fun i i0 i1 => ?_, h.2.2.2⟩
  show 1 ≤ up1 (zm T) k n i ∧ up1 (zm T) k n i ≤ 8
  by_cases q : i = k
  · rw [q, up1_s]; exact hn
  · rw [up1_n _ _ q]; exact h.2.2.1 i i0 i1
theorem tV_vo {T : zT} {k n : Int} (h : tVt T) (hn : 0 ≤ n ∧ n ≤ 99) : tVt (up1 (zp T) k n, zd T, zm T, zo T) := by
  refine ⟨fun i i0 i1 => ?_, h.2.1, h.2.2.1, h.2.2.2⟩
  show 0 ≤ up1 (zp T) k n i ∧ up1 (zp T) k n i ≤ 99
  by_cases q : i = k
  · rw [q, up1_s]; exact hn
  · rw [up1_n _ _ q]; exact h.1 i i0 i1
theorem tV_dr {T : zT} {l sd n : Int} (h : tVt T) (hn : 1 ≤ n ∧ n ≤ 6) : tVt (dr_p sd, ly l (dr_d sd n) (zd T) 24, zm T, zo T) := by
  refine ⟨fun i i0 i1 => ?_, fun i i0 i1 => ?_, h.2.2.1, h.2.2.2⟩
  · have := dr_p_b (seed := sd) i
    show 0 ≤ dr_p sd i ∧ dr_p sd i ≤ 99
    omega
  · show 0 ≤ ly l (dr_d sd n) (zd T) 24 i ∧ ly l (dr_d sd n) (zd T) 24 i ≤ 5
    unfold ly
    split
    · exact dr_d_b _ hn
    · exact h.2.1 i i0 i1
theorem tV_fw {T : zT} {l way k : Int} (h : tVt T) (hl : 0 ≤ l ∧ l ≤ 3) (hk : 0 ≤ k ∧ k ≤ 3) : tVt (zp T, ly l (fw (zd T) l way k) (zd T) 24, zm T, zo T) := by
  refine ⟨h.1, fun i i0 i1 => ?_, h.2.2.1, h.2.2.2⟩
  show 0 ≤ ly l (fw (zd T) l way k) (zd T) 24 i ∧ ly l (fw (zd T) l way k) (zd T) 24 i ≤ 5
  unfold ly
  split
  · exact fw_b hl hk (by omega) h.2.1
  · exact h.2.1 i i0 i1
/-- an order done -/
def zO (Z : zZ) (w a b c e : Int) : zZ := if w = 0 then zw (zp (zt Z), zd (zt Z), zm (zt Z), sw (zo (zt Z)) a 1) Z else if w = 1 then zw (zp (zt Z), zd (zt Z), zm (zt Z), sw (zo (zt Z)) a 0) Z else if w = 2 then zw (zp (zt Z), pr_D a b c e (zd (zt Z)) 24, zm (zt Z), zo (zt Z)) Z else if w = 3 then zw (zp (zt Z), zd (zt Z), up1 (zm (zt Z)) (a * 6 + b) c, zo (zt Z)) Z else zw (up1 (zp (zt Z)) a b, zd (zt Z), zm (zt Z), zo (zt Z)) Z
def nC (w a b c e : Int) : Prop := (0 ≤ w ∧ w < 5) ∧ (w < 4 → 0 ≤ a ∧ a ≤ 3) ∧ (w = 2 ∨ w = 3 → 0 ≤ b ∧ b ≤ 5) ∧ (w = 2 → (0 ≤ c ∧ c ≤ 23) ∧ (0 ≤ e ∧ e ≤ 23) ∧ c / 4 ≤ e / 4 ∧ c % 4 ≤ e % 4) ∧ (w = 3 → 1 ≤ c ∧ c ≤ 8) ∧ (w = 4 → (0 ≤ a ∧ a ≤ 23) ∧ (0 ≤ b ∧ b ≤ 99))
theorem zO_V {B : Int} {Z : zZ} {w a b c e : Int} (hV : zV B Z) (hc : nC w a b c e) : zV B (zO Z w a b c e) := by
  obtain ⟨h0, h1, h2, h3, h4, h5⟩ := hc
  unfold zO
  by_cases q0 : w = 0
  · rw [if_pos q0]; exact zw_V hV (tV_sw hV.1 (h1 (by omega)) (by omega))
  · rw [if_neg q0]
    by_cases q1 : w = 1
    · rw [if_pos q1]; exact zw_V hV (tV_sw hV.1 (h1 (by omega)) (by omega))
    · rw [if_neg q1]
      by_cases q2 : w = 2
      · rw [if_pos q2]; exact zw_V hV (tV_put hV.1 (h2 (Or.inl q2)))
      · rw [if_neg q2]
        by_cases q3 : w = 3
        · rw [if_pos q3]; exact zw_V hV (tV_na hV.1 (h4 q3))
        · rw [if_neg q3]; exact zw_V hV (tV_vo hV.1 (h5 (by omega)).2)
theorem zO_x (Z : zZ) (w a b c e : Int) : zx (zO Z w a b c e) = zx Z ∧ zl (zO Z w a b c e) = zl Z ∧ zc (zO Z w a b c e) = zc Z ∧ zn (zO Z w a b c e) = zn Z := by
  unfold zO
  repeat' split
  all_goals exact ⟨rfl, rfl, rfl, rfl⟩
theorem nB_n {x : Int → Int} {N q w : Int} : ∀ {k i : Nat}, nB x N q w k → i < k → nO x N q w i
  | 0, i, _, h => absurd h (by omega)
  | k + 1, i, hb, h => by
    by_cases e : i = k
    · rw [e]; exact hb.2
    · exact nB_n hb.1 (by omega)
theorem nB_c {x : Int → Int} {N q w : Int} (hw : 0 ≤ w ∧ w < 5) (h : nB x N q w (kN w)) : nC w (nX x N q w 0) (nX x N q w 1) (nX x N q w 2) (nX x N q w 3) := by
  refine ⟨hw, fun c => ?_, fun c => ?_, fun c => ?_, fun c => ?_, fun c => ?_⟩
  · have h0 := (nB_n h (i := 0) (by have := kN_b w; omega)).1.2
    unfold loL hiL at h0
    rw [if_neg (by omega), if_neg (by omega), if_pos rfl] at h0
    exact h0
  · have h1 := (nB_n h (i := 1) (by unfold kN; rw [if_neg (by omega), if_neg (by omega)]; split <;> (try split) <;> omega)).1.2
    unfold loL hiL at h1
    rw [if_neg (by omega), if_neg (by omega), if_neg (by omega), if_pos rfl] at h1
    exact h1
  · subst c
    have h2 := nB_n h (i := 2) (by decide)
    have h3 := nB_n h (i := 3) (by decide)
    exact ⟨h2.1.2, h3.1.2, h3.2 ⟨rfl, rfl⟩⟩
  · subst c
    exact (nB_n h (i := 2) (by decide)).1.2
  · subst c
    exact ⟨(nB_n h (i := 0) (by decide)).1.2, (nB_n h (i := 1) (by decide)).1.2⟩
