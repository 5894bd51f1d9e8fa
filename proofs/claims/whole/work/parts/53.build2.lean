theorem sp_cb_o {ad : Nat → Nat} {cA : Nat → ClassId} {g g2 : sp_G} {f f2 : sp_Fl} {o : Nat} (s : sp_S) (hg : ∀ j, g2 o j = g o j) (hf : ∀ j, f2 o j = f o j) : sp_cb ad cA g2 f2 o s = sp_cb ad cA g f o s := by
  have e2 : sp_fb ad g2 f2 o = sp_fb ad g f o := by
    funext k x
    cases x with
    | none => simp [sp_fb, hg]
    | some r => simp [sp_fb, hf]
  match s with
  | .inl (ci, fl) => simp [sp_cb, e2]
  | .inr (k, n, none) => simp [sp_cb, hg]
  | .inr (k, n, some h) => simp [sp_cb, hf]
theorem sp_Bset {ad : Nat → Nat} {cA : Nat → ClassId} {g g2 : sp_G} {f f2 : sp_Fl} {n o : Nat} {s : sp_S} (h : sp_sh[o]? = some s) (ho : o < n) (hg : ∀ p, p ≠ o → ∀ j, g2 p j = g p j) (hf : ∀ p, p ≠ o → ∀ j, f2 p j = f p j) : (sp_B ad cA g f n).set o (ad o, sp_cb ad cA g2 f2 o s) = sp_B ad cA g2 f2 n := by
  apply List.ext_getElem?
  intro j
  by_cases hj : j = o
  · subst hj
    rw [sp_Bg g2 f2 h ho, List.getElem?_set_self]
    exact (List.getElem?_eq_some_iff.mp (sp_Bg g f (ad := ad) (cA := cA) h ho)).1
  · rw [List.getElem?_set_ne (by omega)]
    simp only [sp_B, List.getElem?_mapIdx]
    cases (sp_sh.take n)[j]? with
    | none => rfl
    | some t => simp [sp_cb_o t (hg j hj) (hf j hj)]
def sp_fs (f : sp_Fl) (o k : Nat) : sp_Fl := fun p j => if p = o ∧ j = k then true else f p j
theorem sp_fs_s (f : sp_Fl) (o k : Nat) : sp_fs f o k o k = true := by simp [sp_fs]
def sp_ex (ad : Nat → Nat) (n q : Nat) : Nat → Nat := fun o => if o = n then q else ad o
def sp_nr (n : Nat) : Option sp_V → Bool
  | some (.inr (.inr r)) => decide (r ≠ n)
  | _ => true
theorem sp_ex_cv {ad : Nat → Nat} {n q : Nat} {v : sp_V} (h : sp_nr n (some v) = true) : sp_cv (sp_ex ad n q) v = sp_cv ad v := by
  match v with
  | .inl x => rfl
  | .inr (.inl x) => rfl
  | .inr (.inr r) =>
    have h2 : r ≠ n := by simpa [sp_nr] using h
    simp [sp_cv, sp_ex, h2]
theorem sp_ex_st {ad : Nat → Nat} {n q : Nat} {st : List sp_V} (h : st.all (fun v => sp_nr n (some v)) = true) : st.map (sp_cv (sp_ex ad n q)) = st.map (sp_cv ad) := by
  apply List.map_congr_left
  intro v hv
  exact sp_ex_cv (List.all_eq_true.mp h v hv)
theorem sp_ex_lv {ad : Nat → Nat} {n q : Nat} : ∀ {L : List (Option sp_V)} {k : Nat}, L.all (sp_nr n) = true → sp_lv (sp_ex ad n q) k L = sp_lv ad k L
  | [], _, _ => rfl
  | none :: t, k, h => by
    simp only [List.all_cons, Bool.and_eq_true] at h
    rw [sp_lv, sp_lv]
    exact sp_ex_lv h.2
  | some v :: t, k, h => by
    simp only [List.all_cons, Bool.and_eq_true] at h
    rw [sp_lv, sp_lv, sp_ex_cv h.1, sp_ex_lv h.2]
theorem sp_ex_B {ad : Nat → Nat} {cA : Nat → ClassId} {g : sp_G} {f : sp_Fl} {n q : Nat} (h : okF f n) : sp_B (sp_ex ad n q) cA g f n = sp_B ad cA g f n := by
  unfold sp_B
  apply List.ext_getElem?
  intro j
  rw [List.getElem?_mapIdx, List.getElem?_mapIdx]
  cases hj : (sp_sh.take n)[j]? with
  | none => rfl
  | some t =>
    have hjn : j < n := by
      have := (List.getElem?_eq_some_iff.mp hj).1
      rw [List.length_take] at this
      omega
    have hsh : sp_sh[j]? = some t := by rw [List.getElem?_take, if_pos hjn] at hj; exact hj
    have e1 : sp_ex ad n q j = ad j := by simp [sp_ex]; omega
    have key : sp_cb (sp_ex ad n q) cA g f j t = sp_cb ad cA g f j t := by
      match t, hsh with
      | .inl (ci, fl), hsh =>
        simp only [sp_cb]
        congr 2
        apply List.ext_getElem?
        intro k
        rw [List.getElem?_mapIdx, List.getElem?_mapIdx]
        cases hk : fl[k]? with
        | none => rfl
        | some x =>
          cases x with
          | none => rfl
          | some r =>
            by_cases hf : f j k = true
            · have h2 := h j k hf
              have h3 : sp_tg j k = r := by simp [sp_tg, hsh, hk]
              rw [h3] at h2
              have h4 : sp_ex ad n q r = ad r := by simp [sp_ex]; omega
              simp [sp_fb, hf, h4]
            · simp [sp_fb, hf]
      | .inr (k, m, none), hsh => rfl
      | .inr (k, m, some hh), hsh =>
        simp only [sp_cb]
        congr 7
        funext i
        by_cases hf : f j i = true
        · have h2 := h j i hf
          have h3 : sp_tg j i = hh i := by simp [sp_tg, hsh]
          rw [h3] at h2
          have h4 : sp_ex ad n q (hh i) = ad (hh i) := by simp [sp_ex]; omega
          simp [hf, h4]
        · simp [hf]
    simp [e1, key]
section BUILD2
variable {M : sp_M} {nn d mc ms pc : Nat} {L L2 : List (Option sp_V)} {st : List sp_V} {x0 y0 n0 : Nat} {g : sp_G} {f : sp_Fl} {Q : sp_BQ}
end BUILD2
