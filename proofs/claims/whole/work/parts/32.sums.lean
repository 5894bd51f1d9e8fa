/-! sums over pairs side by side -/
theorem sI_i {P : Int → Prop} (h0 : P 0) (hs : ∀ n, 0 ≤ n → P n → P (n + 1)) {n : Int} (hn : 0 ≤ n) : P n := by
  obtain ⟨k, rfl⟩ := Int.eq_ofNat_of_zero_le hn
  induction k with
  | zero => exact h0
  | succ k ih => exact hs k (by omega) (ih (by omega))
theorem sI_add (f g : Int → Int) {n : Int} (hn : 0 ≤ n) : sI (fun i => f i + g i) n = sI f n + sI g n := by
  refine sI_i (P := fun n => sI (fun i => f i + g i) n = sI f n + sI g n) rfl (fun n h0 ih => ?_) hn
  rw [sI_s _ h0, sI_s _ h0, sI_s _ h0, ih]
  omega
theorem sI_1 (x v : Int) {n : Int} (hn : 0 ≤ n) : sI (fun b => if b = x then v else 0) n = if 0 ≤ x ∧ x < n then v else 0 := by
  refine sI_i (P := fun n => sI (fun b => if b = x then v else 0) n = if 0 ≤ x ∧ x < n then v else 0) ?_ (fun n h0 ih => ?_) hn
  · rw [if_neg (by omega)]; rfl
  · rw [sI_s _ h0, ih]
    by_cases h1 : n = x
    · rw [if_pos h1, if_neg (by omega), if_pos (by omega)]; omega
    · rw [if_neg h1]
      by_cases h2 : 0 ≤ x ∧ x < n
      · rw [if_pos h2, if_pos (by omega)]; omega
      · rw [if_neg h2, if_neg (by omega)]; omega
theorem sI_sh (f : Int → Int) (d : Int) (hd : 0 ≤ d) {m : Int} (hm : 0 ≤ m) : sI (fun a => if d ≤ a then f a else 0) (m + d) = sI (fun a => f (a + d)) m := by
  refine sI_i (P := fun m => sI (fun a => if d ≤ a then f a else 0) (m + d) = sI (fun a => f (a + d)) m) ?_ (fun m h0 ih => ?_) hm
  · rw [sI_f (x := 0) (y := 0 + d) (by omega) (by omega) (fun i h1 h2 => if_neg (by omega))]
    rfl
  · rw [show m + 1 + d = (m + d) + 1 by omega, sI_s _ (by omega), sI_s _ h0, ih, if_pos (by omega)]
theorem sI_mv (f : Int → Int) (d n : Int) (hd : 0 ≤ d ∧ d ≤ n) : sI (fun a => if d ≤ a then f a else 0) n = sI (fun a => if a + d < n then f (a + d) else 0) n := by
  have e1 := sI_sh f d hd.1 (m := n - d) (by omega)
  rw [show n - d + d = n by omega] at e1
  rw [e1, sI_f (f := fun a => if a + d < n then f (a + d) else 0) (x := n - d) (y := n) (by omega) (by omega) (fun i h1 h2 => if_neg (by omega))]
  exact sI_c (fun i h0 h1 => (if_pos (by omega)).symm)
theorem sI_two (f : Int → Int) : sI f 2 = f 0 + f 1 := by
  have e1 := sI_s f (a := 0) (by omega)
  have e2 := sI_s f (a := 1) (by omega)
  have e0 := sI_0 f
  simp only [Int.zero_add, Int.reduceAdd] at e1 e2
  omega
theorem nb_0 (a : Int) : nb a 0 = if a % 4 < 3 then a + 1 else -1 := by unfold nb; rw [if_pos rfl]
theorem nb_1 (a : Int) : nb a 1 = if a < 20 then a + 4 else -1 := by unfold nb; rw [if_neg (by omega), if_pos rfl]
theorem pF_2 (R : Int → Int → Prop) [∀ x y, Decidable (R x y)] (y : Int → Int) {a : Int} (ha : 0 ≤ a ∧ a < 24) : sI (pF R y a) 2 = (if a % 4 < 3 ∧ R (y a) (y (a + 1)) then 1 else 0) + (if a < 20 ∧ R (y a) (y (a + 4)) then 1 else 0) := by
  rw [sI_two]
  unfold pF
  rw [nb_0, nb_1]
  congr 1
  · by_cases h : a % 4 < 3
    · rw [if_pos h]
      by_cases q : R (y a) (y (a + 1))
      · rw [if_pos ⟨by omega, q⟩, if_pos ⟨h, q⟩]
      · rw [if_neg (fun k => q k.2), if_neg (fun k => q k.2)]
    · rw [if_neg h, if_neg (fun k => k.1 rfl), if_neg (fun k => h k.1)]
  · by_cases h : a < 20
    · rw [if_pos h]
      by_cases q : R (y a) (y (a + 4))
      · rw [if_pos ⟨by omega, q⟩, if_pos ⟨h, q⟩]
      · rw [if_neg (fun k => q k.2), if_neg (fun k => q k.2)]
    · rw [if_neg h, if_neg (fun k => k.1 rfl), if_neg (fun k => h k.1)]
/-- borders: a block, and those behind it -/
def mF (y : Int → Int) (a : Int) : Int → Int := fun b => if a < b ∧ adj a b ∧ y a ≠ y b then 1 else 0
theorem mF_bd (y : Int → Int) {a : Int} (ha : 0 ≤ a ∧ a < 24) : sI (mF y a) 24 = bd y a := by
  unfold bd
  rw [pF_2 (fun p q => p ≠ q) y ha]
  have e : sI (mF y a) 24 = sI (fun b => (if b = a + 1 then (if a % 4 < 3 ∧ y a ≠ y (a + 1) then 1 else 0) else 0) + (if b = a + 4 then (if a < 20 ∧ y a ≠ y (a + 4) then 1 else 0) else 0)) 24 := by
    refine sI_c (fun b b0 b1 => ?_)
    unfold mF
    by_cases h1 : b = a + 1
    · subst h1
      rw [if_pos rfl, if_neg (show ¬ a + 1 = a + 4 by omega)]
      by_cases q : a % 4 < 3 ∧ y a ≠ y (a + 1)
      · rw [if_pos q, if_pos ⟨by omega, by omega, q.2⟩]; omega
      · rw [if_neg q, if_neg (fun k => q ⟨by have := k.2.1; omega, k.2.2⟩)]; omega
    · rw [if_neg h1]
      by_cases h2 : b = a + 4
      · subst h2
        rw [if_pos rfl]
        by_cases q : a < 20 ∧ y a ≠ y (a + 4)
        · rw [if_pos q, if_pos ⟨by omega, by omega, q.2⟩]; omega
        · rw [if_neg q, if_neg (fun k => q ⟨by omega, k.2.2⟩)]; omega
      · rw [if_neg h2, if_neg (fun k => by have := k.1; have := k.2.1; omega)]; omega
  rw [e, sI_add _ _ (by omega), sI_1 _ _ (by omega), sI_1 _ _ (by omega)]
  by_cases h1 : a % 4 < 3 ∧ y a ≠ y (a + 1)
  · rw [if_pos h1, if_pos (show 0 ≤ a + 1 ∧ a + 1 < 24 by omega)]
    by_cases h2 : a < 20 ∧ y a ≠ y (a + 4)
    · rw [if_pos h2, if_pos (by omega)]
    · rw [if_neg h2]; split <;> rfl
  · rw [if_neg h1]
    by_cases h2 : a < 20 ∧ y a ≠ y (a + 4)
    · rw [if_pos h2, if_pos (show 0 ≤ a + 4 ∧ a + 4 < 24 by omega)]; split <;> rfl
    · rw [if_neg h2]; split <;> split <;> rfl
/-- pairs of two styles, told both ways -/
def oF (y : Int → Int) (s q a : Int) : Int → Int := fun b => if adj a b ∧ y a = s ∧ y b = q then 1 else 0
def oW (y : Int → Int) (s q a b : Int) : Int := if y a = s ∧ y b = q then 1 else 0
theorem oF_4 (y : Int → Int) (s q : Int) {a : Int} (ha : 0 ≤ a ∧ a < 24) : sI (oF y s q a) 24 = ((if a % 4 < 3 then oW y s q a (a + 1) else 0) + (if a < 20 then oW y s q a (a + 4) else 0)) + ((if 1 ≤ a then (if a % 4 > 0 then oW y s q a (a - 1) else 0) else 0) + (if 4 ≤ a then oW y s q a (a - 4) else 0)) := by
  have e : sI (oF y s q a) 24 = sI (fun b => ((if b = a + 1 then (if a % 4 < 3 then oW y s q a (a + 1) else 0) else 0) + (if b = a + 4 then (if a < 20 then oW y s q a (a + 4) else 0) else 0)) + ((if b = a - 1 then (if 1 ≤ a then (if a % 4 > 0 then oW y s q a (a - 1) else 0) else 0) else 0) + (if b = a - 4 then (if 4 ≤ a then oW y s q a (a - 4) else 0) else 0))) 24 := by
    refine sI_c (fun b b0 b1 => ?_)
    unfold oF
    by_cases h1 : b = a + 1
    · subst h1
      rw [if_pos rfl, if_neg (show ¬ a + 1 = a + 4 by omega), if_neg (show ¬ a + 1 = a - 1 by omega), if_neg (show ¬ a + 1 = a - 4 by omega)]
      by_cases q1 : a % 4 < 3
      · rw [if_pos q1]
        unfold oW
        by_cases q2 : y a = s ∧ y (a + 1) = q
        · rw [if_pos q2, if_pos ⟨by omega, q2⟩]; omega
        · rw [if_neg q2, if_neg (fun k => q2 k.2)]; omega
      · rw [if_neg q1, if_neg (fun k => by have := k.1; omega)]; omega
    · by_cases h2 : b = a + 4
      · subst h2
        rw [if_neg h1, if_pos rfl, if_neg (show ¬ a + 4 = a - 1 by omega), if_neg (show ¬ a + 4 = a - 4 by omega), if_pos (show a < 20 by omega)]
        unfold oW
        by_cases q2 : y a = s ∧ y (a + 4) = q
        · rw [if_pos q2, if_pos ⟨by omega, q2⟩]; omega
        · rw [if_neg q2, if_neg (fun k => q2 k.2)]; omega
      · by_cases h3 : b = a - 1
        · subst h3
          rw [if_neg h1, if_neg h2, if_pos rfl, if_neg (show ¬ a - 1 = a - 4 by omega), if_pos (show 1 ≤ a by omega)]
          by_cases q1 : a % 4 > 0
          · rw [if_pos q1]
            unfold oW
            by_cases q2 : y a = s ∧ y (a - 1) = q
            · rw [if_pos q2, if_pos ⟨by omega, q2⟩]; omega
            · rw [if_neg q2, if_neg (fun k => q2 k.2)]; omega
          · rw [if_neg q1, if_neg (fun k => by have := k.1; omega)]; omega
        · by_cases h4 : b = a - 4
          · subst h4
            rw [if_neg h1, if_neg h2, if_neg h3, if_pos rfl, if_pos (show 4 ≤ a by omega)]
            unfold oW
            by_cases q2 : y a = s ∧ y (a - 4) = q
            · rw [if_pos q2, if_pos ⟨by omega, q2⟩]; omega
            · rw [if_neg q2, if_neg (fun k => q2 k.2)]; omega
          · rw [if_neg h1, if_neg h2, if_neg h3, if_neg h4, if_neg (fun k => by have := k.1; omega)]; omega
  rw [e, sI_add _ _ (by omega), sI_add _ _ (by omega), sI_add _ _ (by omega), sI_1 _ _ (by omega), sI_1 _ _ (by omega), sI_1 _ _ (by omega), sI_1 _ _ (by omega)]
  congr 1
  · congr 1
    · by_cases q : a % 4 < 3
      · rw [if_pos (show 0 ≤ a + 1 ∧ a + 1 < 24 by omega)]
      · rw [if_neg q]; split <;> rfl
    · by_cases q : a < 20
      · rw [if_pos (show 0 ≤ a + 4 ∧ a + 4 < 24 by omega)]
      · rw [if_neg q]; split <;> rfl
  · congr 1
    · by_cases q : 1 ≤ a
      · rw [if_pos (show 0 ≤ a - 1 ∧ a - 1 < 24 by omega)]
      · rw [if_neg q]; split <;> rfl
    · by_cases q : 4 ≤ a
      · rw [if_pos (show 0 ≤ a - 4 ∧ a - 4 < 24 by omega)]
      · rw [if_neg q]; split <;> rfl
theorem oF_bs (y : Int → Int) {s q : Int} (hsq : s ≠ q) : sI (fun a => sI (oF y s q a) 24) 24 = sI (bs y s q) 24 := by
  have e1 : sI (fun a => sI (oF y s q a) 24) 24 = sI (fun a => ((if a % 4 < 3 then oW y s q a (a + 1) else 0) + (if a < 20 then oW y s q a (a + 4) else 0)) + ((if 1 ≤ a then (if a % 4 > 0 then oW y s q a (a - 1) else 0) else 0) + (if 4 ≤ a then oW y s q a (a - 4) else 0))) 24 := sI_c (fun a a0 a1 => oF_4 y s q ⟨a0, a1⟩)
  rw [e1, sI_add _ _ (by omega), sI_add (fun a => if 1 ≤ a then (if a % 4 > 0 then oW y s q a (a - 1) else 0) else 0) _ (by omega), sI_mv (fun a => if a % 4 > 0 then oW y s q a (a - 1) else 0) 1 24 (by omega), sI_mv (fun a => oW y s q a (a - 4)) 4 24 (by omega), ← sI_add _ _ (by omega), ← sI_add _ _ (by omega)]
  refine sI_c (fun a a0 a1 => ?_)
  unfold bs
  rw [pF_2 (fun x z => x = s ∧ z = q ∨ x = q ∧ z = s) y ⟨a0, a1⟩]
  have k1 : (if a % 4 < 3 then oW y s q a (a + 1) else 0) + (if a + 1 < 24 then (if (a + 1) % 4 > 0 then oW y s q (a + 1) (a + 1 - 1) else 0) else 0) = (if a % 4 < 3 ∧ (y a = s ∧ y (a + 1) = q ∨ y a = q ∧ y (a + 1) = s) then 1 else 0) := by
    rw [show a + 1 - 1 = a by omega]
    unfold oW
    by_cases h : a % 4 < 3
    · rw [if_pos h, if_pos (show a + 1 < 24 by omega), if_pos (show (a + 1) % 4 > 0 by omega)]
      by_cases u1 : y a = s ∧ y (a + 1) = q
      · rw [if_pos u1, if_neg (fun k => hsq (u1.1.symm.trans k.2)), if_pos ⟨h, Or.inl u1⟩]; omega
      · rw [if_neg u1]
        by_cases u2 : y (a + 1) = s ∧ y a = q
        · rw [if_pos u2, if_pos ⟨h, Or.inr ⟨u2.2, u2.1⟩⟩]; omega
        · rw [if_neg u2, if_neg (fun k => k.2.elim u1 (fun r => u2 ⟨r.2, r.1⟩))]; omega
    · rw [if_neg h, if_neg (show ¬ (a % 4 < 3 ∧ (y a = s ∧ y (a + 1) = q ∨ y a = q ∧ y (a + 1) = s)) from fun k => h k.1)]
      by_cases h2 : a + 1 < 24
      · rw [if_pos h2, if_neg (show ¬ (a + 1) % 4 > 0 by omega)]; omega
      · rw [if_neg h2]; omega
  have k2 : (if a < 20 then oW y s q a (a + 4) else 0) + (if a + 4 < 24 then oW y s q (a + 4) (a + 4 - 4) else 0) = (if a < 20 ∧ (y a = s ∧ y (a + 4) = q ∨ y a = q ∧ y (a + 4) = s) then 1 else 0) := by
    rw [show a + 4 - 4 = a by omega]
    unfold oW
    by_cases h : a < 20
    · rw [if_pos h, if_pos (show a + 4 < 24 by omega)]
      by_cases u1 : y a = s ∧ y (a + 4) = q
      · rw [if_pos u1, if_neg (fun k => hsq (u1.1.symm.trans k.2)), if_pos ⟨h, Or.inl u1⟩]; omega
      · rw [if_neg u1]
        by_cases u2 : y (a + 4) = s ∧ y a = q
        · rw [if_pos u2, if_pos ⟨h, Or.inr ⟨u2.2, u2.1⟩⟩]; omega
        · rw [if_neg u2, if_neg (fun k => k.2.elim u1 (fun r => u2 ⟨r.2, r.1⟩))]; omega
    · rw [if_neg h, if_neg (show ¬ a + 4 < 24 by omega), if_neg (fun k => h k.1)]; omega
  rw [← k1, ← k2]
  omega
/-- alike in the layers below l -/
def lkI (on : Int) (di : Int → Int) (a b l : Int) : Prop := lkN on di a b l.toNat
theorem lkI_s {on : Int} {di : Int → Int} {a b l : Int} (h : 0 ≤ l) : lkI on di a b (l + 1) ↔ lkI on di a b l ∧ (bt on l = 1 → di (l * 24 + a) = di (l * 24 + b)) := by
  have e : (l + 1).toNat = l.toNat + 1 := by omega
  have e2 : ((l.toNat : Nat) : Int) = l := Int.toNat_of_nonneg h
  unfold lkI
  rw [e, lkN, e2]
theorem lkI_4 {on : Int} {di : Int → Int} {a b : Int} (ha : 0 ≤ a ∧ a < 24) (hb : 0 ≤ b ∧ b < 24) (hv : ∀ i, 0 ≤ i → i < 96 → 0 ≤ di i ∧ di i ≤ 5) : lkI on di a b 4 ↔ ky on di a = ky on di b := (ky_lk ha hb hv 4 (by omega)).symm
/-- how many of a mark -/
def mk (v : Int → Int) (m : Int) : Int → Int := fun b => if v b = m then 1 else 0
theorem mk_le {v w : Int → Int} {m n : Int} (hn : 0 ≤ n) (h : ∀ b, 0 ≤ b → b < n → v b = m → w b = m) : sI (mk v m) n ≤ sI (mk w m) n ∧ (sI (mk v m) n = sI (mk w m) n → ∀ b, 0 ≤ b → b < n → w b = m → v b = m) := by
  revert h
  refine sI_i (P := fun n => (∀ b, 0 ≤ b → b < n → v b = m → w b = m) → sI (mk v m) n ≤ sI (mk w m) n ∧ (sI (mk v m) n = sI (mk w m) n → ∀ b, 0 ≤ b → b < n → w b = m → v b = m)) (fun _ => ⟨Int.le_refl _, fun _ b b0 b1 => by omega⟩) (fun n h0 ih h => ?_) hn
  have i1 := ih (fun b b0 b1 => h b b0 (by omega))
  have e1 : mk v m n ≤ mk w m n ∧ (mk v m n = mk w m n → w n = m → v n = m) := by
    unfold mk
    by_cases q : v n = m
    · rw [if_pos q, if_pos (h n h0 (by omega) q)]; exact ⟨Int.le_refl _, fun _ _ => q⟩
    · rw [if_neg q]
      by_cases r : w n = m
      · rw [if_pos r]; exact ⟨by omega, fun k => by omega⟩
      · rw [if_neg r]; exact ⟨by omega, fun _ k => absurd k r⟩
  rw [sI_s _ h0, sI_s _ h0]
  refine ⟨by omega, fun e b b0 b1 hb => ?_⟩
  by_cases hbn : b = n
  · rw [hbn] at hb ⊢
    exact e1.2 (by omega) hb
  · exact i1.2 (by omega) b b0 (by omega) hb
theorem mk_24 (v : Int → Int) (m : Int) : 0 ≤ sI (mk v m) 24 ∧ sI (mk v m) 24 ≤ 24 := sI_01 (by omega) (fun i _ _ => by unfold mk; split <;> omega)
theorem mk_1 {v : Int → Int} {m a : Int} (ha : 0 ≤ a ∧ a < 24) (h : v a = m) : 1 ≤ sI (mk v m) 24 := by
  have h1 := sI_1 a 1 (n := 24) (by omega)
  rw [if_pos ha] at h1
  have h2 := mk_le (v := fun b => if b = a then m else m + 1) (w := v) (m := m) (n := 24) (by omega) (fun b b0 b1 q => by
    by_cases hb : b = a
    · rw [hb]; exact h
    · rw [if_neg hb] at q; omega)
  have h3 : sI (mk (fun b => if b = a then m else m + 1) m) 24 = sI (fun b => if b = a then 1 else 0) 24 := sI_c (fun b b0 b1 => by
    show (if (if b = a then m else m + 1) = m then (1 : Int) else 0) = if b = a then 1 else 0
    by_cases hb : b = a
    · rw [if_pos hb, if_pos hb, if_pos rfl]
    · rw [if_neg hb, if_neg hb, if_neg (by omega)])
  omega
