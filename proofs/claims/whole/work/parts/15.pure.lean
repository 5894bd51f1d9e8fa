/-! pure words: sums, counts -/
def p_sum (f : Int → Int) : Nat → Int
  | 0 => 0
  | n + 1 => p_sum f n + f n
/-- the sum of f over 0 .. a - 1 -/
def sI (f : Int → Int) (a : Int) : Int := p_sum f a.toNat
theorem sI_0 (f : Int → Int) : sI f 0 = 0 := rfl
theorem sI_s (f : Int → Int) {a : Int} (h : 0 ≤ a) : sI f (a + 1) = sI f a + f a := by
  obtain ⟨n, rfl⟩ := Int.eq_ofNat_of_zero_le h
  have e : ((n : Int) + 1).toNat = n + 1 := by omega
  unfold sI
  rw [e]
  simp [p_sum]
theorem p_sum_c {f g : Int → Int} : ∀ {n : Nat}, (∀ i : Int, 0 ≤ i → i < n → f i = g i) → p_sum f n = p_sum g n
  | 0, _ => rfl
  | n + 1, h => by
    rw [p_sum, p_sum, p_sum_c (fun i h1 h2 => h i h1 (by omega)), h n (by omega) (by omega)]
theorem sI_c {f g : Int → Int} {a : Int} (h : ∀ i : Int, 0 ≤ i → i < a → f i = g i) : sI f a = sI g a := p_sum_c (fun i h1 h2 => h i h1 (by omega))
theorem p_sum_b {f : Int → Int} {lo hi : Int} : ∀ {n : Nat}, (∀ i : Int, 0 ≤ i → i < n → lo ≤ f i ∧ f i ≤ hi) → n * lo ≤ p_sum f n ∧ p_sum f n ≤ n * hi
  | 0, _ => by simp [p_sum]
  | n + 1, h => by
    have h1 := p_sum_b (f := f) (lo := lo) (hi := hi) (n := n) (fun i a b => h i a (by omega))
    have h2 := h n (by omega) (by omega)
    have e1 : ((n + 1 : Nat) : Int) * lo = n * lo + lo := by rw [Int.natCast_add, Int.add_mul]; simp
    have e2 : ((n + 1 : Nat) : Int) * hi = n * hi + hi := by rw [Int.natCast_add, Int.add_mul]; simp
    rw [p_sum, e1, e2]
    omega
theorem sI_b {f : Int → Int} {lo hi a : Int} (ha : 0 ≤ a) (h : ∀ i : Int, 0 ≤ i → i < a → lo ≤ f i ∧ f i ≤ hi) : a * lo ≤ sI f a ∧ sI f a ≤ a * hi := by
  have := p_sum_b (f := f) (lo := lo) (hi := hi) (n := a.toNat) (fun i h1 h2 => h i h1 (by omega))
  rw [Int.toNat_of_nonneg ha] at this
  exact this
theorem sI_01 {f : Int → Int} {a : Int} (ha : 0 ≤ a) (h : ∀ i : Int, 0 ≤ i → i < a → 0 ≤ f i ∧ f i ≤ 1) : 0 ≤ sI f a ∧ sI f a ≤ a := by
  have := sI_b (lo := 0) (hi := 1) ha h
  omega
theorem p_it {α : Sort _} {c : Prop} [Decidable c] {x y : α} {P : α → Prop} (h : P (if c then x else y)) (hc : c) : P x := by rwa [if_pos hc] at h
theorem p_ie {α : Sort _} {c : Prop} [Decidable c] {x y : α} {P : α → Prop} (h : P (if c then x else y)) (hc : ¬ c) : P y := by rwa [if_neg hc] at h
theorem p_bl (c : Prop) [Decidable c] : sp_bl c = 0 ∨ sp_bl c = 1 := by by_cases h : c <;> simp [sp_bl, h]
/-- the next of a turn -/
theorem p_turn {c n : Int} (hc : 0 ≤ c) (hn : 0 < n) : (if c % n + 1 < n then c % n + 1 else 0) = (c + 1) % n := by
  have h1 := Int.emod_nonneg c (by omega : n ≠ 0)
  have h2 := Int.emod_lt_of_pos c hn
  by_cases h : c % n + 1 < n
  · rw [if_pos h, Int.add_emod, Int.emod_eq_of_lt (a := 1) (by omega) (by omega), Int.emod_eq_of_lt (by omega) h]
  · rw [if_neg h]
    have e : c % n + 1 = n := by omega
    by_cases h3 : n = 1
    · subst h3; omega
    · rw [Int.add_emod, Int.emod_eq_of_lt (a := 1) (by omega) (by omega), e, Int.emod_self]
/-- rows that a method leaves as they were -/
def sp_fr (ids : List Nat) (g g2 : sp_G) : Prop := ∀ p : Nat, p ∉ ids → ∀ j : Int, g2 p j = g p j
theorem sp_fr.rf {ids : List Nat} {g : sp_G} : sp_fr ids g g := fun _ _ _ => rfl
theorem sp_fr.up {ids : List Nat} {g g2 : sp_G} {o : Nat} {i x : Int} (h : sp_fr ids g g2) (ho : o ∈ ids) : sp_fr ids g (sp_up g2 o i x) := fun p hp j => by
  have hne : p ≠ o := fun e => hp (by rw [e]; exact ho)
  rw [sp_up_o _ _ _ _ hne, h p hp j]
theorem sp_fr.tr {ids ids2 : List Nat} {g g2 g3 : sp_G} (h : sp_fr ids g g2) (h2 : sp_fr ids2 g2 g3) (hs : ∀ x ∈ ids2, x ∈ ids) : sp_fr ids g g3 := fun p hp j => by
  rw [h2 p (fun e => hp (hs p e)) j, h p hp j]
theorem sp_fr.wk {ids ids2 : List Nat} {g g2 : sp_G} (h : sp_fr ids g g2) (hs : ∀ x ∈ ids, x ∈ ids2) : sp_fr ids2 g g2 := fun p hp j => h p (fun e => hp (hs p e)) j
/-- a layer is on -/
def bt (on l : Int) : Int := sp_and (sp_shr on l) 1
/-- rows that are a town -/
def sp_isT (t : Nat) : Prop := sp_sh[t]? = some (.inl (4, [some (t + 1), some (t + 2), some (t + 3), none])) ∧ sp_sh[t + 1]? = some (.inr (0, 24, none)) ∧ sp_sh[t + 2]? = some (.inr (0, 96, none)) ∧ sp_sh[t + 3]? = some (.inr (0, 24, none))
theorem sp_isT_1 : sp_isT 1 := ⟨rfl, rfl, rfl, rfl⟩
theorem sp_isT_r {n : Nat} (h : n < 8) : sp_isT (7 + 4 * n) := by
  match n, h with
  | 0, _ => exact ⟨rfl, rfl, rfl, rfl⟩
  | 1, _ => exact ⟨rfl, rfl, rfl, rfl⟩
  | 2, _ => exact ⟨rfl, rfl, rfl, rfl⟩
  | 3, _ => exact ⟨rfl, rfl, rfl, rfl⟩
  | 4, _ => exact ⟨rfl, rfl, rfl, rfl⟩
  | 5, _ => exact ⟨rfl, rfl, rfl, rfl⟩
  | 6, _ => exact ⟨rfl, rfl, rfl, rfl⟩
  | 7, _ => exact ⟨rfl, rfl, rfl, rfl⟩
/-- a fact of numbers from 0 on, out of the counted ones -/
theorem p_all1 {P : Int → Prop} {n : Nat} (h : ∀ a : Nat, a < n → P a) {x : Int} (h0 : 0 ≤ x) (h1 : x < n) : P x := by
  have := h x.toNat (by omega)
  rwa [Int.toNat_of_nonneg h0] at this
theorem bt_all : ∀ on : Nat, on < 16 → ∀ l : Nat, l < 4 → bt on l = 0 ∨ bt on l = 1 := by decide +kernel
theorem bt_01 {on l : Int} (ho : 0 ≤ on ∧ on < 16) (hl : 0 ≤ l ∧ l < 4) : bt on l = 0 ∨ bt on l = 1 :=
  p_all1 (n := 4) (P := fun l => bt on l = 0 ∨ bt on l = 1) (fun a ha => p_all1 (n := 16) (P := fun on => bt on a = 0 ∨ bt on a = 1) (fun b hb => bt_all b hb a ha) ho.1 ho.2) hl.1 hl.2
/-- a layer switched -/
def sw (on l to : Int) : Int := if to = 1 then sp_or on (sp_shl 1 l) else sp_and on (sp_xor (sp_shl 1 l) (-1))
theorem sw_all : ∀ on : Nat, on < 16 → ∀ l : Nat, l < 4 → ∀ to : Nat, to < 2 → sw on l to = sp_or (sp_and on (sp_xor (sp_shl 1 l) (-1))) (sp_shl to l) ∧ 0 ≤ sw on l to ∧ sw on l to < 16 := by decide +kernel
theorem sw_eq {on l to : Int} (ho : 0 ≤ on ∧ on < 16) (hl : 0 ≤ l ∧ l < 4) (ht : 0 ≤ to ∧ to < 2) : sw on l to = sp_or (sp_and on (sp_xor (sp_shl 1 l) (-1))) (sp_shl to l) ∧ 0 ≤ sw on l to ∧ sw on l to < 16 :=
  p_all1 (n := 2) (P := fun to => sw on l to = sp_or (sp_and on (sp_xor (sp_shl 1 l) (-1))) (sp_shl to l) ∧ 0 ≤ sw on l to ∧ sw on l to < 16) (fun c hc => p_all1 (n := 4) (P := fun l => sw on l c = sp_or (sp_and on (sp_xor (sp_shl 1 l) (-1))) (sp_shl c l) ∧ 0 ≤ sw on l c ∧ sw on l c < 16) (fun a ha => p_all1 (n := 16) (P := fun on => sw on a c = sp_or (sp_and on (sp_xor (sp_shl 1 a) (-1))) (sp_shl c a) ∧ 0 ≤ sw on a c ∧ sw on a c < 16) (fun b hb => sw_all b hb a ha c hc) ho.1 ho.2) hl.1 hl.2) ht.1 ht.2
