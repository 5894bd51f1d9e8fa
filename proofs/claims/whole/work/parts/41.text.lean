/-! THE TEXT: pieces, orders, scripts -/
noncomputable def cif (P : Prop) (a b : Int) : Int := @ite Int P (Classical.propDecidable P) a b
theorem cif_y {P : Prop} {a b : Int} (h : P) : cif P a b = a := by unfold cif; exact if_pos h
theorem cif_n {P : Prop} {a b : Int} (h : ¬ P) : cif P a b = b := by unfold cif; exact if_neg h
def rnF (lo hi : Int) (x : Int → Int) : Nat → Int → Int
  | 0, p => p
  | n + 1, p => if lo ≤ x p ∧ x p ≤ hi then rnF lo hi x n (p + 1) else p
/-- behind the run of bytes in bounds -/
def rn (lo hi : Int) (x : Int → Int) (N p : Int) : Int := rnF lo hi x (N - p).toNat p
theorem rn_y {lo hi : Int} {x : Int → Int} {N p : Int} (h : p < N) (hi1 : lo ≤ x p ∧ x p ≤ hi) : rn lo hi x N p = rn lo hi x N (p + 1) := by
  have e : (N - p).toNat = (N - (p + 1)).toNat + 1 := by omega
  unfold rn
  rw [e, rnF, if_pos hi1]
theorem rn_n {lo hi : Int} {x : Int → Int} {N p : Int} (h : ¬ (p < N ∧ lo ≤ x p ∧ x p ≤ hi)) : rn lo hi x N p = p := by
  unfold rn
  by_cases q : p < N
  · have e : (N - p).toNat = (N - (p + 1)).toNat + 1 := by omega
    rw [e, rnF, if_neg (fun k => h ⟨q, k⟩)]
  · have e : (N - p).toNat = 0 := by omega
    rw [e, rnF]
theorem rn_u {lo hi : Int} {x : Int → Int} {N e : Int} (he : ¬ (e < N ∧ lo ≤ x e ∧ x e ≤ hi)) : ∀ (n : Nat) (p : Int), p + n = e → e ≤ N → (∀ i, p ≤ i → i < e → lo ≤ x i ∧ x i ≤ hi) → rn lo hi x N p = e := by
  intro n
  induction n with
  | zero =>
    intro p hp _ _
    have ep : p = e := by omega
    rw [ep]
    exact rn_n he
  | succ n ih =>
    intro p hp hN hr
    rw [rn_y (by omega) (hr p (by omega) (by omega))]
    exact ih (p + 1) (by omega) hN (fun i i0 i1 => hr i (by omega) i1)
theorem rn_a {lo hi : Int} {x : Int → Int} {N : Int} : ∀ (n : Nat) (p : Int), p ≤ N → (N - p).toNat = n → (p ≤ rn lo hi x N p ∧ rn lo hi x N p ≤ N) ∧ (∀ i, p ≤ i → i < rn lo hi x N p → lo ≤ x i ∧ x i ≤ hi) ∧ ¬ (rn lo hi x N p < N ∧ lo ≤ x (rn lo hi x N p) ∧ x (rn lo hi x N p) ≤ hi) := by
  intro n
  induction n with
  | zero =>
    intro p hp hn
    have e := rn_n (lo := lo) (hi := hi) (x := x) (N := N) (p := p) (fun k => by omega)
    rw [e]
    exact ⟨by omega, fun i i0 i1 => by omega, fun k => by omega⟩
  | succ n ih =>
    intro p hp hn
    by_cases q : lo ≤ x p ∧ x p ≤ hi
    · have h := ih (p + 1) (by omega) (by omega)
      rw [rn_y (by omega) q]
      refine ⟨by omega, fun i i0 i1 => ?_, h.2.2⟩
      by_cases e : i = p
      · rw [e]; exact q
      · exact h.2.1 i (by omega) i1
    · have e := rn_n (lo := lo) (hi := hi) (x := x) (N := N) (p := p) (fun k => q k.2)
      rw [e]
      exact ⟨by omega, fun i i0 i1 => by omega, fun k => q k.2⟩
theorem rn_p {lo hi : Int} {x : Int → Int} {N p : Int} (hp : p ≤ N) : (p ≤ rn lo hi x N p ∧ rn lo hi x N p ≤ N) ∧ (∀ i, p ≤ i → i < rn lo hi x N p → lo ≤ x i ∧ x i ≤ hi) ∧ ¬ (rn lo hi x N p < N ∧ lo ≤ x (rn lo hi x N p) ∧ x (rn lo hi x N p) ≤ hi) := rn_a _ p hp rfl
def sk (x : Int → Int) (N p : Int) : Int := rn 32 32 x N p
theorem sk_b {x : Int → Int} {N p : Int} (hp : p ≤ N) : (p ≤ sk x N p ∧ sk x N p ≤ N) ∧ ¬ (sk x N p < N ∧ x (sk x N p) = 32) := by
  have h := rn_p (lo := 32) (hi := 32) (x := x) hp
  exact ⟨h.1, fun k => h.2.2 ⟨k.1, by have := k.2; unfold sk at this; omega⟩⟩
theorem sk_i {x : Int → Int} {N p : Int} (hp : p ≤ N) : sk x N (sk x N p) = sk x N p := rn_n (fun k => (sk_b hp).2 ⟨k.1, by omega⟩)
/-- words -/
def wo (w : Int) : Int := if w = 0 then 0 else if w = 1 then 3 else if w = 2 then 7 else if w = 3 then 11 else 17
def wl (w : Int) : Int := if w = 0 then 2 else if w = 1 then 3 else if w = 2 then 3 else if w = 3 then 5 else 6
theorem wl_b (w : Int) : 2 ≤ wl w ∧ wl w ≤ 6 := by
  unfold wl
  repeat' split
  all_goals omega
theorem wo_b {w : Int} (h : 0 ≤ w ∧ w ≤ 4) : (0 ≤ wo w ∧ wo w + wl w < 24) ∧ (w < 4 → wo (w + 1) = wo w + wl w + 1) ∧ (w = 4 → wo w + wl w + 1 = 24) := by
  rcases (show w = 0 ∨ w = 1 ∨ w = 2 ∨ w = 3 ∨ w = 4 by omega) with q | q | q | q | q <;> subst q <;> decide
theorem wds_all : ∀ w : Nat, w < 5 → ∀ i : Nat, i < 7 → ((i : Int) < wl w → 97 ≤ wds (wo w + i) ∧ wds (wo w + i) ≤ 122) ∧ ((i : Int) = wl w → wds (wo w + i) = 32) := by decide +kernel
theorem wds_b {w i : Int} (h : 0 ≤ w ∧ w ≤ 4) (hi : 0 ≤ i ∧ i ≤ wl w) : (i < wl w → 97 ≤ wds (wo w + i) ∧ wds (wo w + i) ≤ 122) ∧ (i = wl w → wds (wo w + i) = 32) := by
  have hw := wl_b w
  have := wds_all w.toNat (by omega) i.toNat (by omega)
  rwa [Int.toNat_of_nonneg h.1, Int.toNat_of_nonneg hi.1] at this
def wM (x : Int → Int) (N q w : Int) : Prop := q + wl w ≤ N ∧ (∀ i, 0 ≤ i → i < wl w → x (q + i) = wds (wo w + i)) ∧ ¬ (q + wl w < N ∧ 97 ≤ x (q + wl w) ∧ x (q + wl w) ≤ 122)
noncomputable def wF (x : Int → Int) (N q : Int) : Int := cif (wM x N q 0) 0 (cif (wM x N q 1) 1 (cif (wM x N q 2) 2 (cif (wM x N q 3) 3 (cif (wM x N q 4) 4 (-1)))))
theorem wF_n {x : Int → Int} {N q : Int} (h : ∀ v, 0 ≤ v → v < 5 → ¬ wM x N q v) : wF x N q = -1 := by
  unfold wF
  rw [cif_n (h 0 (by omega) (by omega)), cif_n (h 1 (by omega) (by omega)), cif_n (h 2 (by omega) (by omega)), cif_n (h 3 (by omega) (by omega)), cif_n (h 4 (by omega) (by omega))]
theorem wF_y {x : Int → Int} {N q w : Int} (hw : 0 ≤ w ∧ w < 5) (hm : wM x N q w) (h : ∀ v, 0 ≤ v → v < w → ¬ wM x N q v) : wF x N q = w := by
  unfold wF
  rcases (show w = 0 ∨ w = 1 ∨ w = 2 ∨ w = 3 ∨ w = 4 by omega) with e | e | e | e | e <;> subst e
  · rw [cif_y hm]
  · rw [cif_n (h 0 (by omega) (by omega)), cif_y hm]
  · rw [cif_n (h 0 (by omega) (by omega)), cif_n (h 1 (by omega) (by omega)), cif_y hm]
  · rw [cif_n (h 0 (by omega) (by omega)), cif_n (h 1 (by omega) (by omega)), cif_n (h 2 (by omega) (by omega)), cif_y hm]
  · rw [cif_n (h 0 (by omega) (by omega)), cif_n (h 1 (by omega) (by omega)), cif_n (h 2 (by omega) (by omega)), cif_n (h 3 (by omega) (by omega)), cif_y hm]
theorem wF_c (x : Int → Int) (N q : Int) : wF x N q = -1 ∨ ((0 ≤ wF x N q ∧ wF x N q < 5) ∧ wM x N q (wF x N q)) := by
  by_cases h0 : wM x N q 0
  · have e := wF_y (w := 0) (by omega) h0 (fun v v0 v1 => by omega)
    rw [e]; exact Or.inr ⟨by omega, h0⟩
  · by_cases h1 : wM x N q 1
    · have e : wF x N q = 1 := by unfold wF; rw [cif_n h0, cif_y h1]
      rw [e]; exact Or.inr ⟨by omega, h1⟩
    · by_cases h2 : wM x N q 2
      · have e : wF x N q = 2 := by unfold wF; rw [cif_n h0, cif_n h1, cif_y h2]
        rw [e]; exact Or.inr ⟨by omega, h2⟩
      · by_cases h3 : wM x N q 3
        · have e : wF x N q = 3 := by unfold wF; rw [cif_n h0, cif_n h1, cif_n h2, cif_y h3]
          rw [e]; exact Or.inr ⟨by omega, h3⟩
        · by_cases h4 : wM x N q 4
          · have e : wF x N q = 4 := by unfold wF; rw [cif_n h0, cif_n h1, cif_n h2, cif_n h3, cif_y h4]
            rw [e]; exact Or.inr ⟨by omega, h4⟩
          · left; unfold wF; rw [cif_n h0, cif_n h1, cif_n h2, cif_n h3, cif_n h4]
/-- the value of figures -/
def dvN (x : Int → Int) (q : Int) : Nat → Int
  | 0 => 0
  | n + 1 => 10 * dvN x q n + x (q + n) - 48
def dv (x : Int → Int) (q n : Int) : Int := dvN x q n.toNat
theorem dv_s {x : Int → Int} {q n : Int} (h : 0 ≤ n) : dv x q (n + 1) = 10 * dv x q n + x (q + n) - 48 := by
  have e : (n + 1).toNat = n.toNat + 1 := by omega
  have e2 : ((n.toNat : Nat) : Int) = n := Int.toNat_of_nonneg h
  unfold dv
  rw [e, dvN, e2]
def nE (x : Int → Int) (N p : Int) : Int := rn 48 57 x N (sk x N p)
def nV (x : Int → Int) (N p : Int) : Int := dv x (sk x N p) (nE x N p - sk x N p)
def nK (x : Int → Int) (N p lo hi : Int) : Prop := (sk x N p < nE x N p ∧ nE x N p ≤ sk x N p + 2) ∧ lo ≤ nV x N p ∧ nV x N p ≤ hi
theorem nE_b {x : Int → Int} {N p : Int} (hp : p ≤ N) : sk x N p ≤ nE x N p ∧ nE x N p ≤ N := (rn_p (sk_b hp).1.2).1
def kN (w : Int) : Nat := if w = 0 then 1 else if w = 1 then 1 else if w = 2 then 4 else if w = 3 then 3 else 2
def loL (w : Int) (i : Nat) : Int := if w = 3 ∧ i = 2 then 1 else 0
def hiL (w : Int) (i : Nat) : Int := if w = 4 then (if i = 0 then 23 else 99) else if i = 0 then 3 else if i = 1 then 5 else if w = 3 then 8 else 23
def nP (x : Int → Int) (N q w : Int) : Nat → Int
  | 0 => q + wl w
  | i + 1 => nE x N (nP x N q w i)
def nX (x : Int → Int) (N q w : Int) (i : Nat) : Int := nV x N (nP x N q w i)
def nO (x : Int → Int) (N q w : Int) (i : Nat) : Prop := nK x N (nP x N q w i) (loL w i) (hiL w i) ∧ (w = 2 ∧ i = 3 → nX x N q w 2 / 4 ≤ nX x N q w 3 / 4 ∧ nX x N q w 2 % 4 ≤ nX x N q w 3 % 4)
def nB (x : Int → Int) (N q w : Int) : Nat → Prop
  | 0 => True
  | i + 1 => nB x N q w i ∧ nO x N q w i
def sg (x : Int → Int) (N p : Int) : Prop := sk x N p < N ∧ x (sk x N p) = 59
noncomputable def nF (x : Int → Int) (N q w : Int) : Nat → Int
  | 0 => 0
  | k + 1 => cif (nB x N q w k) (sk x N (nP x N q w k)) (nF x N q w k)
noncomputable def oWd (x : Int → Int) (N q : Int) : Int := if wF x N q = -1 then -1 else cif (nB x N q (wF x N q) (kN (wF x N q)) ∧ sg x N (nP x N q (wF x N q) (kN (wF x N q)))) (wF x N q) (-1)
noncomputable def oEn (x : Int → Int) (N q : Int) : Int := if wF x N q = -1 then q else cif (nB x N q (wF x N q) (kN (wF x N q))) (cif (sg x N (nP x N q (wF x N q) (kN (wF x N q)))) (sk x N (nP x N q (wF x N q) (kN (wF x N q))) + 1) (sk x N (nP x N q (wF x N q) (kN (wF x N q))))) (nF x N q (wF x N q) (kN (wF x N q)))
theorem o_a {x : Int → Int} {N q : Int} (h : wF x N q = -1) : oWd x N q = -1 ∧ oEn x N q = q := by
  unfold oWd oEn
  rw [if_pos h, if_pos h]
  exact ⟨rfl, rfl⟩
theorem nB_f {x : Int → Int} {N q w : Int} {i : Nat} (h1 : nB x N q w i) (h2 : ¬ nO x N q w i) : ∀ k : Nat, i < k → ¬ nB x N q w k ∧ nF x N q w k = sk x N (nP x N q w i)
  | 0, h => by omega
  | k + 1, h => by
    by_cases e : i = k
    · subst e
      refine ⟨fun q => h2 q.2, ?_⟩
      rw [nF, cif_y h1]
    · have ih := nB_f h1 h2 k (by omega)
      refine ⟨fun q => ih.1 q.1, ?_⟩
      rw [nF, cif_n ih.1]
      exact ih.2
theorem o_b {x : Int → Int} {N q w : Int} {i : Nat} (e : wF x N q = w) (hw : 0 ≤ w) (hi : i < kN w) (h1 : nB x N q w i) (h2 : ¬ nO x N q w i) : oWd x N q = -1 ∧ oEn x N q = sk x N (nP x N q w i) := by
  have h := nB_f h1 h2 (kN w) hi
  unfold oWd oEn
  rw [e, if_neg (by omega), if_neg (by omega), cif_n (fun k => h.1 k.1), cif_n h.1]
  exact ⟨rfl, h.2⟩
theorem o_c {x : Int → Int} {N q w : Int} (e : wF x N q = w) (hw : 0 ≤ w) (h1 : nB x N q w (kN w)) (h2 : ¬ sg x N (nP x N q w (kN w))) : oWd x N q = -1 ∧ oEn x N q = sk x N (nP x N q w (kN w)) := by
  unfold oWd oEn
  rw [e, if_neg (by omega), if_neg (by omega), cif_n (fun k => h2 k.2), cif_y h1, cif_n h2]
  exact ⟨rfl, rfl⟩
theorem o_d {x : Int → Int} {N q w : Int} (e : wF x N q = w) (hw : 0 ≤ w) (h1 : nB x N q w (kN w)) (h2 : sg x N (nP x N q w (kN w))) : oWd x N q = w ∧ oEn x N q = sk x N (nP x N q w (kN w)) + 1 := by
  unfold oWd oEn
  rw [e, if_neg (by omega), if_neg (by omega), cif_y ⟨h1, h2⟩, cif_y h1, cif_y h2]
  exact ⟨rfl, rfl⟩
theorem o_w {x : Int → Int} {N q : Int} (h : oWd x N q ≠ -1) : wF x N q = oWd x N q ∧ (0 ≤ oWd x N q ∧ oWd x N q < 5) ∧ wM x N q (oWd x N q) ∧ nB x N q (oWd x N q) (kN (oWd x N q)) ∧ sg x N (nP x N q (oWd x N q) (kN (oWd x N q))) ∧ oEn x N q = sk x N (nP x N q (oWd x N q) (kN (oWd x N q))) + 1 := by
  rcases wF_c x N q with c | c
  · exact absurd (o_a c).1 h
  · by_cases h1 : nB x N q (wF x N q) (kN (wF x N q))
    · by_cases h2 : sg x N (nP x N q (wF x N q) (kN (wF x N q)))
      · have d := o_d rfl c.1.1 h1 h2
        rw [d.1]
        exact ⟨rfl, c.1, c.2, h1, h2, d.2⟩
      · exact absurd (o_c rfl c.1.1 h1 h2).1 h
    · exfalso
      refine h ?_
      unfold oWd
      rw [if_neg (by omega), cif_n (fun k => h1 k.1)]
theorem kN_b (w : Int) : 1 ≤ kN w ∧ kN w ≤ 4 := by
  unfold kN
  repeat' split
  all_goals omega
theorem nP_b {x : Int → Int} {N q w : Int} (h : q + wl w ≤ N) : ∀ i : Nat, q + wl w ≤ nP x N q w i ∧ nP x N q w i ≤ N
  | 0 => ⟨by show q + wl w ≤ q + wl w; omega, h⟩
  | i + 1 => by
    have ih := nP_b (x := x) h i
    have h2 := nE_b (x := x) ih.2
    have h3 := (sk_b (x := x) ih.2).1
    show q + wl w ≤ nE x N (nP x N q w i) ∧ nE x N (nP x N q w i) ≤ N
    omega
theorem nB_g {x : Int → Int} {N q w : Int} (h : q + wl w ≤ N) : ∀ i : Nat, nB x N q w i → q + wl w + i ≤ nP x N q w i
  | 0, _ => by show q + wl w + 0 ≤ q + wl w; omega
  | i + 1, hb => by
    have ih := nB_g h i hb.1
    have h1 := hb.2.1.1.1
    have h3 := (sk_b (x := x) (nP_b (x := x) h i).2).1
    show _ ≤ nE x N (nP x N q w i)
    omega
theorem o_e {x : Int → Int} {N q : Int} (h : oWd x N q ≠ -1) : q + 4 ≤ oEn x N q ∧ oEn x N q ≤ N := by
  obtain ⟨h1, h2, h3, h4, h5, h6⟩ := o_w h
  have a := nB_g (x := x) h3.1 _ h4
  have b := (sk_b (x := x) (nP_b (x := x) h3.1 (kN (oWd x N q))).2).1
  have c := wl_b (oWd x N q)
  have d := kN_b (oWd x N q)
  have e := h5.1
  omega
/-- orders, one by one -/
noncomputable def gP (x : Int → Int) (N : Int) : Nat → Int
  | 0 => 0
  | j + 1 => oEn x N (sk x N (gP x N j))
def gB (x : Int → Int) (N : Int) : Nat → Prop
  | 0 => True
  | j + 1 => gB x N j ∧ oWd x N (sk x N (gP x N j)) ≠ -1
theorem gB_m {x : Int → Int} {N : Int} {i j : Nat} (h : gB x N j) (hi : i < j) : oWd x N (sk x N (gP x N i)) ≠ -1 := by
  induction j with
  | zero => omega
  | succ j ih =>
    by_cases e : i = j
    · rw [e]; exact h.2
    · exact ih h.1 (by omega)
theorem gP_b {x : Int → Int} {N : Int} (hN : 0 ≤ N) : ∀ j : Nat, gB x N j → 4 * (j : Int) ≤ gP x N j ∧ gP x N j ≤ N
  | 0, _ => ⟨by show 4 * (0 : Int) ≤ 0; omega, hN⟩
  | j + 1, h => by
    have ih := gP_b hN j h.1
    have a := o_e h.2
    have b := (sk_b (x := x) ih.2).1
    show 4 * ((j + 1 : Nat) : Int) ≤ oEn x N (sk x N (gP x N j)) ∧ oEn x N (sk x N (gP x N j)) ≤ N
    omega
def sOK (x : Int → Int) (N : Int) (n : Nat) : Prop := 1 ≤ n ∧ gB x N n ∧ (∀ j, 1 ≤ j → j < n → sk x N (gP x N j) < N) ∧ ¬ sk x N (gP x N n) < N
def sF (x : Int → Int) (N f : Int) : Prop := ∃ j : Nat, gB x N j ∧ (∀ i, 1 ≤ i → i ≤ j → sk x N (gP x N i) < N) ∧ oWd x N (sk x N (gP x N j)) = -1 ∧ f = oEn x N (sk x N (gP x N j))
theorem sOK_u {x : Int → Int} {N : Int} {n m : Nat} (h1 : sOK x N n) (h2 : sOK x N m) : n = m := by
  rcases Nat.lt_trichotomy n m with h | h | h
  · exact absurd (h2.2.2.1 n h1.1 h) h1.2.2.2
  · exact h
  · exact absurd (h1.2.2.1 m h2.1 h) h2.2.2.2
theorem sF_u {x : Int → Int} {N f e : Int} (h1 : sF x N f) (h2 : sF x N e) : f = e := by
  obtain ⟨j, a1, a2, a3, a4⟩ := h1
  obtain ⟨k, b1, b2, b3, b4⟩ := h2
  rcases Nat.lt_trichotomy j k with h | h | h
  · exact absurd a3 (gB_m b1 h)
  · rw [a4, b4, h]
  · exact absurd b3 (gB_m a1 h)
theorem sOK_sF {x : Int → Int} {N f : Int} {n : Nat} (h1 : sOK x N n) (h2 : sF x N f) : False := by
  obtain ⟨j, b1, b2, b3, b4⟩ := h2
  by_cases h : j < n
  · exact absurd b3 (gB_m h1.2.1 h)
  · exact h1.2.2.2 (b2 n h1.1 (by omega))
theorem sOK_b {x : Int → Int} {N : Int} {n : Nat} (hN : 0 ≤ N ∧ N ≤ 120) (h : sOK x N n) : n ≤ 30 := by
  have := gP_b hN.1 n h.2.1
  omega
theorem sF_b {x : Int → Int} {N f : Int} (hN : 0 ≤ N ∧ N ≤ 120) (h : sF x N f) : 0 ≤ f ∧ f ≤ 120 := by
  obtain ⟨j, b1, b2, b3, b4⟩ := h
  have h1 := gP_b hN.1 j b1
  have h2 := (sk_b (x := x) h1.2).1
  rw [b4]
  generalize sk x N (gP x N j) = q at *
  rcases wF_c x N q with c | c
  · rw [(o_a c).2]; omega
  · have h3 := c.2.1
    have h5 := wl_b (wF x N q)
    have key : ∀ i : Nat, 0 ≤ sk x N (nP x N q (wF x N q) i) ∧ sk x N (nP x N q (wF x N q) i) ≤ 120 := fun i => by
      have a := nP_b (x := x) h3 i
      have b := (sk_b (x := x) a.2).1
      omega
    have kf : ∀ k : Nat, 0 ≤ nF x N q (wF x N q) k ∧ nF x N q (wF x N q) k ≤ 120 := by
      intro k
      induction k with
      | zero => rw [nF]; omega
      | succ k ih =>
        rw [nF]
        by_cases q9 : nB x N q (wF x N q) k
        · rw [cif_y q9]; exact key k
        · rw [cif_n q9]; exact ih
    unfold oEn
    rw [if_neg (by omega)]
    by_cases g1 : nB x N q (wF x N q) (kN (wF x N q))
    · by_cases g2 : sg x N (nP x N q (wF x N q) (kN (wF x N q)))
      · exact absurd b3 (by rw [(o_d rfl c.1.1 g1 g2).1]; omega)
      · rw [cif_y g1, cif_n g2]; exact key _
    · rw [cif_n g1]; exact kf _
