/-- all slots are set -/
def allF (f : sp_Fl) : Prop := (∀ o ci fl k r, sp_sh[o]? = some (.inl (ci, fl)) → fl[k]? = some (some r) → f o k = true) ∧ ∀ o ki n h j, sp_sh[o]? = some (.inr (ki, n, some h)) → j < n → f o j = true
theorem sp_done {D : va_G} {ad : Nat → Nat} {cA : Nat → ClassId} {g : sp_G} {f : sp_Fl} {H : Heap} (hf : allF f) (hP : va_P D sp_cl (sp_B ad cA g f 67) H) : va_P D sp_cl (sp_W ad cA g) H := by
  intro k q hq
  have hlen : sp_sh.length = 67 := rfl
  simp only [sp_W, List.getElem?_mapIdx] at hq
  cases hs : sp_sh[k]? with
  | none => simp [hs] at hq
  | some t =>
    have hk : k < 67 := by rw [← hlen]; exact (List.getElem?_eq_some_iff.mp hs).1
    simp [hs] at hq
    subst hq
    have h1 := hP k _ (sp_Bg g f (ad := ad) (cA := cA) hs hk)
    match t, hs, h1 with
    | .inl (ci, fl), hs, h1 =>
      have e : fl.mapIdx (sp_fb ad g f k) = fl.mapIdx (sp_fv ad g k) := by
        apply List.ext_getElem?
        intro j
        rw [List.getElem?_mapIdx, List.getElem?_mapIdx]
        cases hj : fl[j]? with
        | none => rfl
        | some x =>
          cases x with
          | none => rfl
          | some r => simp [sp_fb, sp_fv, hf.1 k ci fl j r hs hj]
      simp only [sp_cb, e] at h1
      exact h1
    | .inr (ki, n, none), hs, h1 => exact h1
    | .inr (ki, n, some h), hs, h1 =>
      have h2 : H[ad k]? = some (arrV (cA ki) n (fun j => va_rf (if f k j then some (ad (h j)) else none))) := h1
      show H[ad k]? = some (arrV (cA ki) n (fun j => va_rf (some (ad (h j)))))
      rw [h2]
      congr 1
      unfold arrV
      congr 2
      funext j
      show va_rf (if f k j.val = true then some (ad (h j.val)) else none) = va_rf (some (ad (h j.val)))
      rw [if_pos (hf.2 k ki n h j.val hs j.isLt)]
