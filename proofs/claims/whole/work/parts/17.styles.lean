/-! keys and styles -/
def up1 (f : Int → Int) (i x : Int) : Int → Int := fun t => if t = i then x else f t
theorem up1_s (f : Int → Int) (i x : Int) : up1 f i x i = x := by simp [up1]
theorem up1_n (f : Int → Int) {i t : Int} (x : Int) (h : t ≠ i) : up1 f i x t = f t := by simp [up1, h]
def kyN (on : Int) (di : Int → Int) (a : Int) : Nat → Int
  | 0 => 0
  | n + 1 => if bt on n = 1 then kyN on di a n * 6 + di (n * 24 + a) else kyN on di a n
def kyI (on : Int) (di : Int → Int) (a l : Int) : Int := kyN on di a l.toNat
theorem kyI_s {on : Int} {di : Int → Int} {a l : Int} (h : 0 ≤ l) : kyI on di a (l + 1) = if bt on l = 1 then kyI on di a l * 6 + di (l * 24 + a) else kyI on di a l := by
  have e : (l + 1).toNat = l.toNat + 1 := by omega
  have e2 : ((l.toNat : Nat) : Int) = l := Int.toNat_of_nonneg h
  unfold kyI
  rw [e, kyN, e2]
/-- the key of a block -/
def ky (on : Int) (di : Int → Int) (a : Int) : Int := kyI on di a 4
theorem ky_b {on : Int} {di : Int → Int} {a l : Int} (ha : 0 ≤ a ∧ a < 24) (hv : ∀ i, 0 ≤ i → i < 96 → 0 ≤ di i ∧ di i ≤ 5) (hl : 0 ≤ l ∧ l ≤ 4) : 0 ≤ kyI on di a l ∧ kyI on di a l ≤ 1295 ∧ (l ≤ 3 → kyI on di a l ≤ 215) := by
  have h0 := hv a (by omega) (by omega)
  have h1 := hv (1 * 24 + a) (by omega) (by omega)
  have h2 := hv (2 * 24 + a) (by omega) (by omega)
  have h3 := hv (3 * 24 + a) (by omega) (by omega)
  have k0 : kyI on di a 0 = 0 := rfl
  have k1 := kyI_s (on := on) (di := di) (a := a) (l := 0) (by omega)
  have k2 := kyI_s (on := on) (di := di) (a := a) (l := 1) (by omega)
  have k3 := kyI_s (on := on) (di := di) (a := a) (l := 2) (by omega)
  have k4 := kyI_s (on := on) (di := di) (a := a) (l := 3) (by omega)
  simp only [Int.zero_mul, Int.zero_add, Int.reduceAdd] at k1 k2 k3 k4
  have b1 : 0 ≤ kyI on di a 1 ∧ kyI on di a 1 ≤ 5 := by rw [k1]; split <;> omega
  have b2 : 0 ≤ kyI on di a 2 ∧ kyI on di a 2 ≤ 35 := by rw [k2]; split <;> omega
  have b3 : 0 ≤ kyI on di a 3 ∧ kyI on di a 3 ≤ 215 := by rw [k3]; split <;> omega
  have b4 : 0 ≤ kyI on di a 4 ∧ kyI on di a 4 ≤ 1295 := by rw [k4]; split <;> omega
  rcases (show l = 0 ∨ l = 1 ∨ l = 2 ∨ l = 3 ∨ l = 4 by omega) with h | h | h | h | h <;> subst h <;> omega
/-- two blocks are alike in the layers below l -/
def lkN (on : Int) (di : Int → Int) (a b : Int) : Nat → Prop
  | 0 => True
  | n + 1 => lkN on di a b n ∧ (bt on n = 1 → di (n * 24 + a) = di (n * 24 + b))
theorem ky_lk {on : Int} {di : Int → Int} {a b : Int} (ha : 0 ≤ a ∧ a < 24) (hb : 0 ≤ b ∧ b < 24) (hv : ∀ i, 0 ≤ i → i < 96 → 0 ≤ di i ∧ di i ≤ 5) : ∀ n : Nat, n ≤ 4 → (kyN on di a n = kyN on di b n ↔ lkN on di a b n) := by
  intro n
  induction n with
  | zero => intro _; simp [kyN, lkN]
  | succ n ih =>
    intro hn
    have h1 := hv (n * 24 + a) (by omega) (by omega)
    have h2 := hv (n * 24 + b) (by omega) (by omega)
    have i1 := ih (by omega)
    rw [kyN, kyN, lkN, ← i1]
    by_cases h : bt on n = 1
    · rw [if_pos h, if_pos h]
      constructor
      · intro q; exact ⟨by omega, fun _ => by omega⟩
      · intro q; have := q.2 h; omega
    · rw [if_neg h, if_neg h]
      constructor
      · intro q; exact ⟨q, fun h9 => absurd h9 h⟩
      · intro q; exact q.1
/-- the first of c firsts whose key is x; c, if there is none -/
def fmN (kk fs : Int → Int) (x : Int) : Nat → Int
  | 0 => 0
  | n + 1 => if fmN kk fs x n < n then fmN kk fs x n else if kk (fs n) = x then n else n + 1
def fm (kk fs : Int → Int) (x c : Int) : Int := fmN kk fs x c.toNat
theorem fmN_p (kk fs : Int → Int) (x : Int) : ∀ n : Nat, 0 ≤ fmN kk fs x n ∧ fmN kk fs x n ≤ n ∧ (fmN kk fs x n < n → kk (fs (fmN kk fs x n)) = x) ∧ ∀ s : Int, 0 ≤ s → s < fmN kk fs x n → kk (fs s) ≠ x
  | 0 => ⟨by simp [fmN], by simp [fmN], fun h => by simp [fmN] at h, fun s h1 h2 => by simp [fmN] at h2; omega⟩
  | n + 1 => by
    obtain ⟨h1, h2, h3, h4⟩ := fmN_p kk fs x n
    rw [fmN]
    by_cases q : fmN kk fs x n < n
    · rw [if_pos q]
      exact ⟨h1, by omega, fun _ => h3 q, h4⟩
    · have en : fmN kk fs x n = n := by omega
      rw [if_neg q]
      by_cases r : kk (fs n) = x
      · rw [if_pos r]
        refine ⟨by omega, by omega, fun _ => r, fun s s1 s2 => h4 s s1 (by omega)⟩
      · rw [if_neg r]
        refine ⟨by omega, by omega, fun h => by omega, fun s s1 s2 => ?_⟩
        by_cases e : s = n
        · rw [e]; exact r
        · exact h4 s s1 (by omega)
theorem fm_p {kk fs : Int → Int} {x c : Int} (hc : 0 ≤ c) : 0 ≤ fm kk fs x c ∧ fm kk fs x c ≤ c ∧ (fm kk fs x c < c → kk (fs (fm kk fs x c)) = x) ∧ ∀ s : Int, 0 ≤ s → s < fm kk fs x c → kk (fs s) ≠ x := by
  have := fmN_p kk fs x c.toNat
  rw [Int.toNat_of_nonneg hc] at this
  exact this
theorem fm_eq {kk fs : Int → Int} {x c s : Int} (hc : 0 ≤ c) (h0 : 0 ≤ s) (h1 : s ≤ c) (h2 : s < c → kk (fs s) = x) (h3 : ∀ t : Int, 0 ≤ t → t < s → kk (fs t) ≠ x) : fm kk fs x c = s := by
  obtain ⟨p0, p1, p2, p3⟩ := fm_p (kk := kk) (fs := fs) (x := x) hc
  rcases (show fm kk fs x c < s ∨ fm kk fs x c = s ∨ s < fm kk fs x c by omega) with h | h | h
  · exact absurd (p2 (by omega)) (h3 _ p0 h)
  · exact h
  · exact absurd (h2 (by omega)) (p3 s h0 h)
/-- styles of the first n blocks: how many, their firsts, who is of which -/
def stN (kk : Int → Int) : Nat → Int × (Int → Int) × (Int → Int)
  | 0 => (0, fun _ => 0, fun _ => 0)
  | n + 1 => if fm kk (stN kk n).2.1 (kk n) (stN kk n).1 = (stN kk n).1 then ((stN kk n).1 + 1, up1 (stN kk n).2.1 (stN kk n).1 n, up1 (stN kk n).2.2 n (stN kk n).1) else ((stN kk n).1, (stN kk n).2.1, up1 (stN kk n).2.2 n (fm kk (stN kk n).2.1 (kk n) (stN kk n).1))
def sc (kk : Int → Int) (a : Int) : Int := (stN kk a.toNat).1
def sf (kk : Int → Int) (a : Int) : Int → Int := (stN kk a.toNat).2.1
def sy (kk : Int → Int) (a : Int) : Int → Int := (stN kk a.toNat).2.2
theorem st_s {kk : Int → Int} {a : Int} (h : 0 ≤ a) : (sc kk (a + 1), sf kk (a + 1), sy kk (a + 1)) = if fm kk (sf kk a) (kk a) (sc kk a) = sc kk a then (sc kk a + 1, up1 (sf kk a) (sc kk a) a, up1 (sy kk a) a (sc kk a)) else (sc kk a, sf kk a, up1 (sy kk a) a (fm kk (sf kk a) (kk a) (sc kk a))) := by
  have e : (a + 1).toNat = a.toNat + 1 := by omega
  have e2 : ((a.toNat : Nat) : Int) = a := Int.toNat_of_nonneg h
  unfold sc sf sy
  rw [e, stN, e2]
theorem st_new {kk : Int → Int} {a : Int} (h : 0 ≤ a) (q : fm kk (sf kk a) (kk a) (sc kk a) = sc kk a) : sc kk (a + 1) = sc kk a + 1 ∧ sf kk (a + 1) = up1 (sf kk a) (sc kk a) a ∧ sy kk (a + 1) = up1 (sy kk a) a (sc kk a) := by
  have := st_s (kk := kk) h
  rw [if_pos q] at this
  simpa using this
theorem st_old {kk : Int → Int} {a : Int} (h : 0 ≤ a) (q : ¬ fm kk (sf kk a) (kk a) (sc kk a) = sc kk a) : sc kk (a + 1) = sc kk a ∧ sf kk (a + 1) = sf kk a ∧ sy kk (a + 1) = up1 (sy kk a) a (fm kk (sf kk a) (kk a) (sc kk a)) := by
  have := st_s (kk := kk) h
  rw [if_neg q] at this
  simpa using this
theorem st_pN (kk : Int → Int) : ∀ n : Nat, (0 ≤ sc kk n ∧ sc kk n ≤ n ∧ (0 < n → 0 < sc kk n)) ∧ (∀ s, 0 ≤ s → s < sc kk n → 0 ≤ sf kk n s ∧ sf kk n s < n) ∧ (∀ b : Int, 0 ≤ b → b < n → 0 ≤ sy kk n b ∧ sy kk n b < sc kk n ∧ kk (sf kk n (sy kk n b)) = kk b) ∧ (∀ s t, 0 ≤ s → s < sc kk n → 0 ≤ t → t < sc kk n → kk (sf kk n s) = kk (sf kk n t) → s = t)
  | 0 => by
    have e0 : sc kk ((0 : Nat) : Int) = 0 := rfl
    rw [e0]
    exact ⟨⟨by omega, by omega, by omega⟩, fun s h1 h2 => by omega, fun b h1 h2 => by omega, fun s t h1 h2 => by omega⟩
  | n + 1 => by
    obtain ⟨⟨a1, a2, a3⟩, b1, c1, d1⟩ := st_pN kk n
    have hn : (0 : Int) ≤ n := by omega
    obtain ⟨p0, p1, p2, p3⟩ := fm_p (kk := kk) (fs := sf kk n) (x := kk n) a1
    have en : ((n + 1 : Nat) : Int) = (n : Int) + 1 := by omega
    rw [en]
    by_cases q : fm kk (sf kk n) (kk n) (sc kk n) = sc kk n
    · obtain ⟨e1, e2, e3⟩ := st_new hn q
      rw [e1, e2, e3]
      rw [q] at p3
      refine ⟨⟨by omega, by omega, fun _ => by omega⟩, fun s h1 h2 => ?_, fun b h1 h2 => ?_, fun s t h1 h2 h3 h4 h5 => ?_⟩
      · by_cases hs : s = sc kk n
        · rw [hs, up1_s]; omega
        · rw [up1_n _ _ hs]
          have := b1 s h1 (by omega)
          omega
      · by_cases hb : b = n
        · rw [hb, up1_s, up1_s]; exact ⟨by omega, by omega, rfl⟩
        · have := c1 b h1 (by omega)
          rw [up1_n _ _ hb, up1_n _ _ (by omega)]
          exact ⟨this.1, by omega, this.2.2⟩
      · by_cases hs : s = sc kk n
        · by_cases ht : t = sc kk n
          · omega
          · rw [hs, up1_s, up1_n _ _ ht] at h5
            exact absurd h5.symm (p3 t h3 (by omega))
        · by_cases ht : t = sc kk n
          · rw [ht, up1_s, up1_n _ _ hs] at h5
            exact absurd h5 (p3 s h1 (by omega))
          · rw [up1_n _ _ hs, up1_n _ _ ht] at h5
            exact d1 s t h1 (by omega) h3 (by omega) h5
    · obtain ⟨e1, e2, e3⟩ := st_old hn q
      rw [e1, e2, e3]
      refine ⟨⟨a1, by omega, fun _ => by omega⟩, fun s h1 h2 => ?_, fun b h1 h2 => ?_, d1⟩
      · have := b1 s h1 h2
        omega
      · by_cases hb : b = n
        · rw [hb, up1_s]; exact ⟨p0, by omega, p2 (by omega)⟩
        · rw [up1_n _ _ hb]
          exact c1 b h1 (by omega)
theorem st_p {kk : Int → Int} {a : Int} (h : 0 ≤ a) : (0 ≤ sc kk a ∧ sc kk a ≤ a ∧ (0 < a → 0 < sc kk a)) ∧ (∀ s, 0 ≤ s → s < sc kk a → 0 ≤ sf kk a s ∧ sf kk a s < a) ∧ (∀ b, 0 ≤ b → b < a → 0 ≤ sy kk a b ∧ sy kk a b < sc kk a ∧ kk (sf kk a (sy kk a b)) = kk b) ∧ (∀ s t, 0 ≤ s → s < sc kk a → 0 ≤ t → t < sc kk a → kk (sf kk a s) = kk (sf kk a t) → s = t) := by
  have := st_pN kk a.toNat
  rw [Int.toNat_of_nonneg h] at this
  refine ⟨⟨this.1.1, this.1.2.1, fun q => this.1.2.2 (by omega)⟩, this.2⟩
/-- the least place of the least -/
def amN (f : Int → Int) : Nat → Int
  | 0 => 0
  | n + 1 => if f n < f (amN f n) then n else amN f n
def am (f : Int → Int) (c : Int) : Int := amN f c.toNat
theorem am_s {f : Int → Int} {c : Int} (h : 0 ≤ c) : am f (c + 1) = if f c < f (am f c) then c else am f c := by
  have e : (c + 1).toNat = c.toNat + 1 := by omega
  have e2 : ((c.toNat : Nat) : Int) = c := Int.toNat_of_nonneg h
  unfold am
  rw [e, amN, e2]
theorem am_1 (f : Int → Int) : am f 1 = 0 := by
  show (if f ((0 : Nat) : Int) < f 0 then ((0 : Nat) : Int) else 0) = 0
  split <;> rfl
theorem amN_b (f : Int → Int) : ∀ n : Nat, 0 ≤ amN f n ∧ (0 < n → amN f n < n)
  | 0 => ⟨by simp [amN], by omega⟩
  | n + 1 => by
    have := amN_b f n
    rw [amN]
    by_cases h : f n < f (amN f n)
    · rw [if_pos h]; omega
    · rw [if_neg h]
      refine ⟨this.1, fun _ => ?_⟩
      by_cases hn : 0 < n
      · have := this.2 hn; omega
      · have e : n = 0 := by omega
        subst e
        simp [amN]
theorem am_b {f : Int → Int} {c : Int} (h : 0 < c) : 0 ≤ am f c ∧ am f c < c := by
  have := amN_b f c.toNat
  rw [show am f c = amN f c.toNat from rfl]
  omega
theorem am_c {f g : Int → Int} {c : Int} (h : ∀ s, 0 ≤ s → s < c → f s = g s) : am f c = am g c := by
  have key : ∀ n : Nat, (n : Int) ≤ c → amN f n = amN g n := by
    intro n
    induction n with
    | zero => intro _; rfl
    | succ n ih =>
      intro hn
      have hb := amN_b g n
      rw [amN, amN, ih (by omega), h n (by omega) (by omega)]
      by_cases h0 : 0 < n
      · rw [h (amN g n) hb.1 (by have := hb.2 h0; omega)]
      · have e : n = 0 := by omega
        subst e
        have e2 : amN g 0 = 0 := rfl
        rw [e2, h 0 (by omega) (by omega)]
  by_cases hc : 0 ≤ c
  · exact key _ (by omega)
  · have : c.toNat = 0 := by omega
    unfold am
    rw [this]
    rfl
/-- voters and blocks of a style -/
def vF (y pe : Int → Int) (s : Int) : Int → Int := fun a => if y a = s then pe a else 0
def bF (y : Int → Int) (s : Int) : Int → Int := fun a => if y a = s then 1 else 0
def vo (y pe : Int → Int) (s : Int) : Int := sI (vF y pe s) 24
theorem vF_b {y pe : Int → Int} {s a : Int} (h : 0 ≤ pe a ∧ pe a ≤ 99) : 0 ≤ vF y pe s a ∧ vF y pe s a ≤ 99 := by
  unfold vF
  split <;> omega
theorem vo_b {y pe : Int → Int} (s : Int) (h : ∀ a, 0 ≤ a → a < 24 → 0 ≤ pe a ∧ pe a ≤ 99) : 0 ≤ vo y pe s ∧ vo y pe s ≤ 2376 := by
  have := sI_b (f := vF y pe s) (lo := 0) (hi := 99) (a := 24) (by omega) (fun i h1 h2 => vF_b (h i h1 h2))
  unfold vo
  omega
/-- blocks side by side -/
def nb (a sd : Int) : Int := if sd = 0 then (if a % 4 < 3 then a + 1 else -1) else if sd = 1 then (if a < 20 then a + 4 else -1) else if sd = 2 then (if 0 < a % 4 then a - 1 else -1) else (if 4 ≤ a then a - 4 else -1)
abbrev adj (a b : Int) : Prop := a + 4 = b ∨ b + 4 = a ∨ (a / 4 = b / 4 ∧ (a + 1 = b ∨ b + 1 = a))
theorem nb_b {a sd : Int} (ha : 0 ≤ a ∧ a < 24) : nb a sd = -1 ∨ (0 ≤ nb a sd ∧ nb a sd < 24 ∧ adj a (nb a sd)) := by
  unfold nb
  split
  · split <;> omega
  · split
    · split <;> omega
    · split
      · split <;> omega
      · split <;> omega
theorem nb_of {a b : Int} (ha : 0 ≤ a ∧ a < 24) (hb : 0 ≤ b ∧ b < 24) (h : adj a b) : ∃ sd, 0 ≤ sd ∧ sd < 4 ∧ nb a sd = b := by
  rcases (show b = a + 1 ∨ b = a + 4 ∨ b = a - 1 ∨ b = a - 4 by omega) with e | e | e | e
  · exact ⟨0, by omega, by omega, by unfold nb; rw [if_pos rfl, if_pos (by omega)]; omega⟩
  · exact ⟨1, by omega, by omega, by unfold nb; rw [if_neg (by omega), if_pos rfl, if_pos (by omega)]; omega⟩
  · exact ⟨2, by omega, by omega, by unfold nb; rw [if_neg (by omega), if_neg (by omega), if_pos rfl, if_pos (by omega)]; omega⟩
  · exact ⟨3, by omega, by omega, by unfold nb; rw [if_neg (by omega), if_neg (by omega), if_neg (by omega), if_pos (by omega)]; omega⟩
/-- pairs side by side (a block, and its right and lower neighbours), counted -/
def pF (R : Int → Int → Prop) [∀ x y, Decidable (R x y)] (y : Int → Int) (a sd : Int) : Int := if nb a sd ≠ -1 ∧ R (y a) (y (nb a sd)) then 1 else 0
