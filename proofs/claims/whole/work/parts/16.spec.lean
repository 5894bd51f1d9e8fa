/-! a row holds a function, from a place on -/
def rH (g : sp_G) (row : Nat) (off n : Int) (f : Int → Int) : Prop := ∀ i j : Int, 0 ≤ i → i < n → j = off + i → g row j = f i
theorem rH.c {g : sp_G} {row : Nat} {off n : Int} {f f2 : Int → Int} (h : rH g row off n f) (e : ∀ i, 0 ≤ i → i < n → f i = f2 i) : rH g row off n f2 := fun i j h0 h1 h2 => by rw [h i j h0 h1 h2, e i h0 h1]
theorem rH.up {g : sp_G} {row : Nat} {off n : Int} {f : Int → Int} (h : rH g row off n f) {i j x : Int} (hj : j = off + i) : rH (sp_up g row j x) row off n (fun t => if t = i then x else f t) := fun t u h0 h1 h2 => by
  show sp_up g row j x row u = if t = i then x else f t
  by_cases ht : t = i
  · rw [if_pos ht, h2, ht, ← hj, sp_up_s]
  · rw [if_neg ht, sp_up_i _ _ _ _ (by omega), h t u h0 h1 h2]
theorem rH.ne {g : sp_G} {row row2 : Nat} {off n : Int} {f : Int → Int} (h : rH g row off n f) {j x : Int} (hr : row ≠ row2) : rH (sp_up g row2 j x) row off n f := fun t u h0 h1 h2 => by
  rw [sp_up_o _ _ _ _ hr, h t u h0 h1 h2]
theorem rH.out {g : sp_G} {row : Nat} {off n : Int} {f : Int → Int} (h : rH g row off n f) {j x : Int} (hj : j < off ∨ off + n ≤ j) : rH (sp_up g row j x) row off n f := fun t u h0 h1 h2 => by
  rw [sp_up_i _ _ _ _ (by omega), h t u h0 h1 h2]
theorem rH.fr {g g2 : sp_G} {ids : List Nat} {row : Nat} {off n : Int} {f : Int → Int} (h : rH g row off n f) (hf : sp_fr ids g g2) (hr : row ∉ ids) : rH g2 row off n f := fun t u h0 h1 h2 => by
  rw [hf row hr, h t u h0 h1 h2]
theorem sI_f {f : Int → Int} {x y : Int} (hx : 0 ≤ x) (hxy : x ≤ y) (h : ∀ i, x ≤ i → i < y → f i = 0) : sI f y = sI f x := by
  obtain ⟨k, rfl⟩ : ∃ k : Nat, y = x + k := ⟨(y - x).toNat, by omega⟩
  induction k with
  | zero => simp
  | succ k ih =>
    have e : x + ((k + 1 : Nat) : Int) = (x + k) + 1 := by omega
    rw [e, sI_s _ (by omega), ih (by omega) (fun i h1 h2 => h i h1 (by omega)), h (x + k) (by omega) (by omega)]
    omega
/-- a town's data: voters, districts, names, layers on -/
def tC (g : sp_G) (pe di na : Int → Int) (on : Int) : Prop := rH g 2 0 24 pe ∧ rH g 3 0 96 di ∧ rH g 4 0 24 na ∧ g 1 3 = on
def tM (g : sp_G) (pe di na : Int → Int) (on : Int) : Prop := rH g 53 0 24 pe ∧ rH g 53 24 96 di ∧ rH g 53 120 24 na ∧ g 53 144 = on
def tV (pe di na : Int → Int) (on : Int) : Prop := (∀ a, 0 ≤ a → a < 24 → 0 ≤ pe a ∧ pe a ≤ 99) ∧ (∀ i, 0 ≤ i → i < 96 → 0 ≤ di i ∧ di i ≤ 5) ∧ (∀ i, 0 ≤ i → i < 24 → 1 ≤ na i ∧ na i ≤ 8) ∧ 0 ≤ on ∧ on < 16
/-- a rectangle of blocks -/
abbrev inQ (a b k : Int) : Prop := a / 4 ≤ k / 4 ∧ k / 4 ≤ b / 4 ∧ a % 4 ≤ k % 4 ∧ k % 4 ≤ b % 4
def pr_F (l e a b : Int) (di : Int → Int) : Int → Int := fun k => if inQ a b k then (if di (l * 24 + k) = e then 0 else 1) else 0
def pr_D (l e a b : Int) (di : Int → Int) (m : Int) : Int → Int := fun i => if 0 ≤ i - l * 24 ∧ i - l * 24 < m ∧ inQ a b (i - l * 24) then e else di i
theorem pr_D_0 (l e a b : Int) (di : Int → Int) : pr_D l e a b di 0 = di := by
  funext i
  unfold pr_D
  rw [if_neg (by omega)]
theorem pr_D_s {l e a b : Int} {di : Int → Int} {m : Int} (hm : 0 ≤ m) (hi : inQ a b m) (t : Int) : (if t = l * 24 + m then e else pr_D l e a b di m t) = pr_D l e a b di (m + 1) t := by
  by_cases ht : t = l * 24 + m
  · subst ht
    have e1 : l * 24 + m - l * 24 = m := by omega
    simp only [pr_D, e1, if_pos]
    rw [if_pos ⟨hm, by omega, hi⟩]
  · rw [if_neg ht]
    unfold pr_D
    by_cases h : 0 ≤ t - l * 24 ∧ t - l * 24 < m ∧ inQ a b (t - l * 24)
    · rw [if_pos h, if_pos ⟨h.1, by omega, h.2.2⟩]
    · rw [if_neg h, if_neg (fun q => h ⟨q.1, by omega, q.2.2⟩)]
theorem pr_D_f {l e a b : Int} {di : Int → Int} {m m2 : Int} (hmm : m ≤ m2) (h : ∀ k, m ≤ k → k < m2 → ¬ inQ a b k) (t : Int) : pr_D l e a b di m t = pr_D l e a b di m2 t := by
  unfold pr_D
  by_cases hh : 0 ≤ t - l * 24 ∧ t - l * 24 < m ∧ inQ a b (t - l * 24)
  · rw [if_pos hh, if_pos ⟨hh.1, by omega, hh.2.2⟩]
  · rw [if_neg hh, if_neg]
    intro q
    by_cases hq : t - l * 24 < m
    · exact hh ⟨q.1, hq, q.2.2⟩
    · exact h _ (by omega) q.2.1 q.2.2
/-- what a walk over a rectangle has done up to block m -/
def pr_I (l e a b : Int) (di : Int → Int) (row : Nat) (off : Int) (g0 g : sp_G) (m many : Int) : Prop := many = sI (pr_F l e a b di) m ∧ sp_fr [row] g0 g ∧ rH g row off 96 (pr_D l e a b di m) ∧ ∀ j, (j < off ∨ off + 96 ≤ j) → g row j = g0 row j
/-- the numbers that draw a layer -/
def dX (seed : Int) : Nat → Int
  | 0 => seed
  | n + 1 => (dX seed n * 1103515245 + 12345) % 2147483648
def dXI (seed a : Int) : Int := dX seed a.toNat
theorem dXI_s {seed a : Int} (h : 0 ≤ a) : dXI seed (a + 1) = (dXI seed a * 1103515245 + 12345) % 2147483648 := by
  have e : (a + 1).toNat = a.toNat + 1 := by omega
  unfold dXI
  rw [e]
  rfl
theorem dX_b {seed : Int} (h : 0 ≤ seed ∧ seed < 2147483648) : ∀ n, 0 ≤ dX seed n ∧ dX seed n < 2147483648
  | 0 => h
  | n + 1 => by
    have := dX_b h n
    rw [dX]
    omega
theorem dXI_b {seed a : Int} (h : 0 ≤ seed ∧ seed < 2147483648) : 0 ≤ dXI seed a ∧ dXI seed a < 2147483648 := dX_b h _
def dr_d (seed n a : Int) : Int := dXI seed (a + 1) / 65536 % n
def dr_p (seed a : Int) : Int := dXI seed (a + 1) / 1024 % 30
theorem dr_d_b {seed n : Int} (a : Int) (hn : 1 ≤ n ∧ n ≤ 6) : 0 ≤ dr_d seed n a ∧ dr_d seed n a ≤ 5 := by
  have h1 := Int.emod_nonneg (dXI seed (a + 1) / 65536) (by omega : n ≠ 0)
  have h2 := Int.emod_lt_of_pos (dXI seed (a + 1) / 65536) (by omega : 0 < n)
  unfold dr_d
  omega
theorem dr_p_b {seed : Int} (a : Int) : 0 ≤ dr_p seed a ∧ dr_p seed a < 30 := by
  unfold dr_p
  omega
/-- a map that a layer follows -/
def fw (di : Int → Int) (l way k a : Int) : Int := if way = 0 then di (k * 24 + a) else if way = 1 then di (l * 24 + (a / 4 * 4 + 3 - a % 4)) else if way = 2 then di (l * 24 + (20 - a / 4 * 4 + a % 4)) else if di (l * 24 + a) < di (k * 24 + a) then di (k * 24 + a) else di (l * 24 + a)
/-- the first m blocks of a layer become as f says -/
def ly (l : Int) (f di : Int → Int) (m : Int) : Int → Int := fun i => if 0 ≤ i - l * 24 ∧ i - l * 24 < m then f (i - l * 24) else di i
theorem ly_0 (l : Int) (f di : Int → Int) : ly l f di 0 = di := by
  funext i
  unfold ly
  rw [if_neg (by omega)]
theorem ly_s {l : Int} {f di : Int → Int} {m : Int} (hm : 0 ≤ m) (t : Int) : (if t = l * 24 + m then f m else ly l f di m t) = ly l f di (m + 1) t := by
  by_cases ht : t = l * 24 + m
  · subst ht
    have e1 : l * 24 + m - l * 24 = m := by omega
    simp only [ly, e1, if_pos]
    rw [if_pos ⟨hm, by omega⟩]
  · rw [if_neg ht]
    unfold ly
    by_cases h : 0 ≤ t - l * 24 ∧ t - l * 24 < m
    · rw [if_pos h, if_pos ⟨h.1, by omega⟩]
    · rw [if_neg h, if_neg (fun q => h ⟨q.1, by omega⟩)]
theorem ly_at {l : Int} {f di : Int → Int} {m a : Int} (h : m ≤ a) : ly l f di m (l * 24 + a) = di (l * 24 + a) := by
  unfold ly
  rw [if_neg (by omega)]
/-- which of its district a block is, how it is turned -/
def rk (di : Int → Int) (l e a : Int) : Int := sI (fun b => if di (l * 24 + b) = e then 1 else 0) a
theorem rk_b {di : Int → Int} {l e a : Int} (h : 0 ≤ a) : 0 ≤ rk di l e a ∧ rk di l e a ≤ a := sI_01 h (fun i _ _ => by by_cases q : di (l * 24 + i) = e <;> simp [q])
theorem rk_s {di : Int → Int} {l e a : Int} (h : 0 ≤ a) : rk di l e (a + 1) = rk di l e a + (if di (l * 24 + a) = e then 1 else 0) := sI_s _ h
def led (pe di na : Int → Int) (l e n : Int) (v : Prop) [Decidable v] : Int → Int := fun a => if di (l * 24 + a) = e ∧ rk di l e a % na (l * 6 + e) = n then (if v then pe a else 1) else 0
