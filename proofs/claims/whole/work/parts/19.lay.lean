/-! contests laid on a paper -/
/-- the height of a contest -/
def hT (di na : Int → Int) (a l : Int) : Int := 2 + na (l * 6 + di (l * 24 + a))
theorem hT_b {pe di na : Int → Int} {on a l : Int} (hv : tV pe di na on) (ha : 0 ≤ a ∧ a < 24) (hl : 0 ≤ l ∧ l < 4) : 3 ≤ hT di na a l ∧ hT di na a l ≤ 10 ∧ 0 ≤ l * 6 + di (l * 24 + a) ∧ l * 6 + di (l * 24 + a) < 24 := by
  have h1 := hv.2.1 (l * 24 + a) (by omega) (by omega)
  have h2 := hv.2.2.1 (l * 6 + di (l * 24 + a)) (by omega) (by omega)
  unfold hT
  omega
/-- the column of n by a rule (1 .. 3) -/
def scN (R h : Int) (rm : Int → Int) : Nat → Int
  | 0 => -1
  | n + 1 => if h ≤ rm n ∧ (scN R h rm n < 0 ∨ (R = 2 ∧ rm n < rm (scN R h rm n)) ∨ (R = 3 ∧ rm (scN R h rm n) < rm n)) then n else scN R h rm n
def scI (R h : Int) (rm : Int → Int) (n : Int) : Int := scN R h rm n.toNat
theorem scI_s {R h : Int} {rm : Int → Int} {n : Int} (h0 : 0 ≤ n) : scI R h rm (n + 1) = if h ≤ rm n ∧ (scI R h rm n < 0 ∨ (R = 2 ∧ rm n < rm (scI R h rm n)) ∨ (R = 3 ∧ rm (scI R h rm n) < rm n)) then n else scI R h rm n := by
  have e : (n + 1).toNat = n.toNat + 1 := by omega
  have e2 : ((n.toNat : Nat) : Int) = n := Int.toNat_of_nonneg h0
  unfold scI
  rw [e, scN, e2]
theorem scN_p (R h : Int) (rm : Int → Int) : ∀ n : Nat, (scN R h rm n = -1 ∧ ∀ c : Int, 0 ≤ c → c < n → rm c < h) ∨ (0 ≤ scN R h rm n ∧ scN R h rm n < n ∧ h ≤ rm (scN R h rm n))
  | 0 => Or.inl ⟨rfl, fun c h1 h2 => by omega⟩
  | n + 1 => by
    have ih := scN_p R h rm n
    rw [scN]
    by_cases q : h ≤ rm n ∧ (scN R h rm n < 0 ∨ (R = 2 ∧ rm n < rm (scN R h rm n)) ∨ (R = 3 ∧ rm (scN R h rm n) < rm n))
    · rw [if_pos q]
      exact Or.inr ⟨by omega, by omega, q.1⟩
    · rw [if_neg q]
      rcases ih with ⟨i1, i2⟩ | ⟨i1, i2, i3⟩
      · refine Or.inl ⟨i1, fun c c0 c1 => ?_⟩
        by_cases hc : c = n
        · subst hc
          rcases Int.lt_or_le (rm n) h with k | k
          · exact k
          · exact absurd ⟨k, Or.inl (by omega)⟩ q
        · exact i2 c c0 (by omega)
      · exact Or.inr ⟨i1, by omega, i3⟩
theorem scI_p {R h : Int} {rm : Int → Int} {n : Int} (h0 : 0 ≤ n) : (scI R h rm n = -1 ∧ ∀ c : Int, 0 ≤ c → c < n → rm c < h) ∨ (0 ≤ scI R h rm n ∧ scI R h rm n < n ∧ h ≤ rm (scI R h rm n)) := by
  have := scN_p R h rm n.toNat
  rw [Int.toNat_of_nonneg h0] at this
  exact this
/-- by rule 1 the first that is found stays -/
theorem sc_1 {h : Int} {rm : Int → Int} {R c n : Int} (hR : R = 1) (hc : 0 ≤ c) (hcn : c < n) (h1 : h ≤ rm c) (h2 : ∀ x, 0 ≤ x → x < c → rm x < h) : scI R h rm n = c := by
  subst hR
  have base : scI 1 h rm c = -1 := by
    rcases scI_p (R := 1) (h := h) (rm := rm) hc with q | ⟨q1, q2, q3⟩
    · exact q.1
    · have := h2 _ q1 q2; omega
  have st : scI 1 h rm (c + 1) = c := by rw [scI_s hc, if_pos ⟨h1, Or.inl (by omega)⟩]
  obtain ⟨k, rfl⟩ : ∃ k : Nat, n = c + 1 + k := ⟨(n - c - 1).toNat, by omega⟩
  clear hcn
  induction k with
  | zero => simpa using st
  | succ k ih =>
    have e : c + 1 + ((k + 1 : Nat) : Int) = (c + 1 + k) + 1 := by omega
    rw [e, scI_s (by omega), ih, if_neg (by omega)]
/-- NEXT -/
def nx (h C : Int) (rm : Int → Int) (sh la : Int) : Int := if h ≤ rm la then la else if la + 1 < sh * C ∧ h ≤ rm (la + 1) then la + 1 else -1
def fC (R h C : Int) (rm : Int → Int) (sh la : Int) : Int := if R = 0 then nx h C rm sh la else scI R h rm (sh * C)
/-- a new sheet -/
def bg (C D sh : Int) (rm : Int → Int) : Int → Int := fun c => if sh * C ≤ c ∧ c < sh * C + C then D else rm c
abbrev lT : Type := (Int → Int) × Int × Int × Int × Int × (Int → Int) × (Int → Int)
def l_rm (S : lT) : Int → Int := S.1
def l_sh (S : lT) : Int := S.2.1
def l_la (S : lT) : Int := S.2.2.1
def l_br (S : lT) : Int := S.2.2.2.1
def l_ct (S : lT) : Int := S.2.2.2.2.1
def l_lr (S : lT) : Int → Int := S.2.2.2.2.2.1
def l_co (S : lT) : Int → Int := S.2.2.2.2.2.2
def l0 (C D : Int) : lT := (bg C D 0 (fun _ => 0), 1, 0, 0, 0, fun _ => 0, fun _ => 0)
def lB (l : Int) (S : lT) : lT := (l_rm S, l_sh S, l_la S, 1, l_ct S + 1, up1 (l_lr S) (l_ct S) l, l_co S)
def lP (h l c : Int) (S : lT) : lT := (up1 (l_rm S) c (l_rm S c - h), l_sh S, c, 0, l_ct S + 1, up1 (l_lr S) (l_ct S) l, up1 (l_co S) (l_ct S) c)
def lG (C D : Int) (S : lT) : lT := (bg C D (l_sh S) (l_rm S), l_sh S + 1, l_la S, l_br S, l_ct S, l_lr S, l_co S)
def lS (C D R h l : Int) (S : lT) : lT := if l_br S = 1 ∨ D < h then lB l S else if fC R h C (l_rm S) (l_sh S) (l_la S) = -1 then lP h l (l_sh S * C) (lG C D S) else lP h l (fC R h C (l_rm S) (l_sh S) (l_la S)) S
/-- what holds of a paper under way -/
def lV (C D R : Int) (S : lT) : Prop := (1 ≤ C ∧ C ≤ 3) ∧ (4 ≤ D ∧ D ≤ 30) ∧ (0 ≤ R ∧ R ≤ 3) ∧ 1 ≤ l_sh S ∧ (l_sh S ≤ l_ct S ∨ (l_sh S = 1 ∧ l_ct S = 0 ∧ l_la S = 0 ∧ l_rm S 0 = D)) ∧ (0 ≤ l_la S ∧ l_la S < l_sh S * C) ∧ (∀ c, 0 ≤ c → c < l_sh S * C → 0 ≤ l_rm S c ∧ l_rm S c ≤ 30) ∧ (R = 0 → l_sh S * C ≤ l_la S + C) ∧ 0 ≤ l_ct S ∧ (l_br S = 0 ∨ l_br S = 1)
theorem l0_V {C D R : Int} (hC : 1 ≤ C ∧ C ≤ 3) (hD : 4 ≤ D ∧ D ≤ 30) (hR : 0 ≤ R ∧ R ≤ 3) : lV C D R (l0 C D) := by
  refine ⟨hC, hD, hR, by show (1 : Int) ≤ 1; omega, Or.inr ⟨rfl, rfl, rfl, ?_⟩, ⟨by show (0 : Int) ≤ 0; omega, ?_⟩, fun c c0 c1 => ?_, fun _ => ?_, by show (0 : Int) ≤ 0; omega, Or.inl rfl⟩
  · show bg C D 0 (fun _ => 0) 0 = D
    unfold bg
    rw [if_pos (by omega)]
  · show (0 : Int) < 1 * C
    omega
  · show 0 ≤ bg C D 0 (fun _ => 0) c ∧ bg C D 0 (fun _ => 0) c ≤ 30
    have c1 : c < 1 * C := c1
    unfold bg
    rw [if_pos (by omega)]
    omega
  · show 1 * C ≤ 0 + C
    omega
theorem l_mul {C sh : Int} (hC : 1 ≤ C ∧ C ≤ 3) (h0 : 1 ≤ sh) : (sh ≤ 3 → (sh + 1) * C = sh * C + C ∧ sh * C + C ≤ 12) ∧ (sh ≤ 4 → sh * C ≤ 12) ∧ 1 ≤ sh * C ∧ sh * C ≤ 3 * sh := by
  rcases (show C = 1 ∨ C = 2 ∨ C = 3 by omega) with h | h | h <;> subst h <;> omega
/-- where the next contest goes -/
theorem fC_p {C D R h : Int} {S : lT} (hV : lV C D R S) : (fC R h C (l_rm S) (l_sh S) (l_la S) = -1 ∧ (h ≤ D → l_sh S ≤ l_ct S)) ∨ (0 ≤ fC R h C (l_rm S) (l_sh S) (l_la S) ∧ fC R h C (l_rm S) (l_sh S) (l_la S) < l_sh S * C ∧ h ≤ l_rm S (fC R h C (l_rm S) (l_sh S) (l_la S)) ∧ (R = 0 → l_la S ≤ fC R h C (l_rm S) (l_sh S) (l_la S))) := by
  obtain ⟨v1, v2, v3, v4, v5, v6, v7, v8, v9, v10⟩ := hV
  have m := l_mul (sh := l_sh S) v1 v4
  unfold fC
  by_cases hR : R = 0
  · rw [if_pos hR]
    unfold nx
    by_cases q : h ≤ l_rm S (l_la S)
    · rw [if_pos q]
      exact Or.inr ⟨v6.1, v6.2, q, fun _ => Int.le_refl _⟩
    · rw [if_neg q]
      by_cases r : l_la S + 1 < l_sh S * C ∧ h ≤ l_rm S (l_la S + 1)
      · rw [if_pos r]
        exact Or.inr ⟨by omega, r.1, r.2, fun _ => by omega⟩
      · rw [if_neg r]
        refine Or.inl ⟨rfl, fun hh => ?_⟩
        rcases v5 with k | ⟨k1, k2, k3, k4⟩
        · exact k
        · rw [k3, k4] at q
          omega
  · rw [if_neg hR]
    rcases scI_p (R := R) (h := h) (rm := l_rm S) (n := l_sh S * C) (by omega) with ⟨k1, k2⟩ | ⟨k1, k2, k3⟩
    · refine Or.inl ⟨k1, fun hh => ?_⟩
      rcases v5 with k | ⟨j1, j2, j3, j4⟩
      · exact k
      · have := k2 0 (by omega) (by omega)
        rw [j4] at this
        omega
    · exact Or.inr ⟨k1, k2, k3, fun e => absurd e hR⟩
theorem lB_V {C D R l : Int} {S : lT} (hV : lV C D R S) : lV C D R (lB l S) ∧ l_ct (lB l S) = l_ct S + 1 := by
  obtain ⟨v1, v2, v3, v4, v5, v6, v7, v8, v9, v10⟩ := hV
  refine ⟨⟨v1, v2, v3, v4, Or.inl ?_, v6, v7, v8, ?_, Or.inr rfl⟩, rfl⟩
  · show l_sh S ≤ l_ct S + 1
    omega
  · show 0 ≤ l_ct S + 1
    omega
theorem lP_V {C D R h l c : Int} {S : lT} (hV : lV C D R S) (hh : 0 ≤ h) (hc : 0 ≤ c ∧ c < l_sh S * C ∧ h ≤ l_rm S c ∧ (R = 0 → l_la S ≤ c)) : lV C D R (lP h l c S) ∧ l_ct (lP h l c S) = l_ct S + 1 := by
  obtain ⟨v1, v2, v3, v4, v5, v6, v7, v8, v9, v10⟩ := hV
  refine ⟨⟨v1, v2, v3, v4, Or.inl ?_, ⟨hc.1, hc.2.1⟩, fun x x0 x1 => ?_, fun e => ?_, ?_, Or.inl rfl⟩, rfl⟩
  · show l_sh S ≤ l_ct S + 1
    omega
  · show 0 ≤ up1 (l_rm S) c (l_rm S c - h) x ∧ up1 (l_rm S) c (l_rm S c - h) x ≤ 30
    by_cases hx : x = c
    · rw [hx, up1_s]
      have := v7 c hc.1 hc.2.1
      omega
    · rw [up1_n _ _ hx]
      exact v7 x x0 x1
  · show l_sh S * C ≤ c + C
    have := v8 e
    have := hc.2.2.2 e
    omega
  · show 0 ≤ l_ct S + 1
    omega
theorem lG_V {C D R : Int} {S : lT} (hV : lV C D R S) (h1 : l_sh S ≤ l_ct S) (h2 : l_ct S ≤ 3) (h l : Int) (hh : 0 ≤ h ∧ h ≤ D) : lV C D R (lP h l (l_sh S * C) (lG C D S)) ∧ l_ct (lP h l (l_sh S * C) (lG C D S)) = l_ct S + 1 := by
  obtain ⟨v1, v2, v3, v4, v5, v6, v7, v8, v9, v10⟩ := hV
  have m := l_mul (sh := l_sh S) v1 v4
  have m1 := m.1 (by omega)
  have e0 : bg C D (l_sh S) (l_rm S) (l_sh S * C) = D := by
    unfold bg
    rw [if_pos (by omega)]
  refine ⟨⟨v1, v2, v3, ?_, Or.inl ?_, ⟨?_, ?_⟩, fun x x0 x1 => ?_, fun e => ?_, ?_, Or.inl rfl⟩, rfl⟩
  · show 1 ≤ l_sh S + 1
    omega
  · show l_sh S + 1 ≤ l_ct S + 1
    omega
  · show 0 ≤ l_sh S * C
    omega
  · show l_sh S * C < (l_sh S + 1) * C
    omega
  · show 0 ≤ up1 (bg C D (l_sh S) (l_rm S)) (l_sh S * C) (bg C D (l_sh S) (l_rm S) (l_sh S * C) - h) x ∧ up1 (bg C D (l_sh S) (l_rm S)) (l_sh S * C) (bg C D (l_sh S) (l_rm S) (l_sh S * C) - h) x ≤ 30
    have x1 : x < (l_sh S + 1) * C := x1
    by_cases hx : x = l_sh S * C
    · rw [hx, up1_s, e0]
      omega
    · rw [up1_n _ _ hx]
      unfold bg
      by_cases q : l_sh S * C ≤ x ∧ x < l_sh S * C + C
      · rw [if_pos q]; omega
      · rw [if_neg q]; exact v7 x x0 (by omega)
  · show (l_sh S + 1) * C ≤ l_sh S * C + C
    omega
  · show 0 ≤ l_ct S + 1
    omega
theorem lS_V {C D R h l : Int} {S : lT} (hV : lV C D R S) (hh : 0 ≤ h) (hc : l_ct S ≤ 3) : lV C D R (lS C D R h l S) ∧ l_ct (lS C D R h l S) = l_ct S + 1 := by
  unfold lS
  by_cases q : l_br S = 1 ∨ D < h
  · rw [if_pos q]
    exact lB_V hV
  · rw [if_neg q]
    rcases fC_p (h := h) hV with ⟨k1, k2⟩ | k
    · rw [if_pos k1]
      exact lG_V hV (k2 (by omega)) hc h l (by omega)
    · rw [if_neg (by omega)]
      exact lP_V hV hh k
/-- the paper behind the first n layers -/
def lyN (C D R on : Int) (ht : Int → Int) : Nat → lT
  | 0 => l0 C D
  | n + 1 => if bt on n = 1 then lS C D R (ht n) n (lyN C D R on ht n) else lyN C D R on ht n
def lI (C D R on : Int) (ht : Int → Int) (l : Int) : lT := lyN C D R on ht l.toNat
theorem lI_s {C D R on : Int} {ht : Int → Int} {l : Int} (h : 0 ≤ l) : lI C D R on ht (l + 1) = if bt on l = 1 then lS C D R (ht l) l (lI C D R on ht l) else lI C D R on ht l := by
  have e : (l + 1).toNat = l.toNat + 1 := by omega
  have e2 : ((l.toNat : Nat) : Int) = l := Int.toNat_of_nonneg h
  unfold lI
  rw [e, lyN, e2]
theorem lI_V {C D R on : Int} {ht : Int → Int} (hC : 1 ≤ C ∧ C ≤ 3) (hD : 4 ≤ D ∧ D ≤ 30) (hR : 0 ≤ R ∧ R ≤ 3) (hh : ∀ l, 0 ≤ l → l < 4 → 0 ≤ ht l) {l : Int} (h0 : 0 ≤ l) (h4 : l ≤ 4) : lV C D R (lI C D R on ht l) ∧ l_ct (lI C D R on ht l) ≤ l := by
  obtain ⟨k, rfl⟩ := Int.eq_ofNat_of_zero_le h0
  induction k with
  | zero => exact ⟨l0_V hC hD hR, by show (0 : Int) ≤ 0; omega⟩
  | succ k ih =>
    have i1 := ih (by omega) (by omega)
    rw [show ((k + 1 : Nat) : Int) = (k : Int) + 1 by omega, lI_s (by omega)]
    by_cases q : bt on k = 1
    · rw [if_pos q]
      have := lS_V (l := (k : Int)) i1.1 (hh k (by omega) (by omega)) (by omega)
      exact ⟨this.1, by rw [this.2]; omega⟩
    · rw [if_neg q]
      exact ⟨i1.1, by omega⟩
/-- sheets of a paper; 0: bare -/
def shs (S : lT) : Int := if l_br S = 1 then 0 else l_sh S
