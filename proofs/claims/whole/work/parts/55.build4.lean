theorem sp_BsetF {ad : Nat → Nat} {cA : Nat → ClassId} {g : sp_G} {f : sp_Fl} {n : Nat} {o k ci : Nat} {x : Int} {fl : List (Option Nat)} (h : sp_sh[o]? = some (.inl (ci, fl))) (ho : o < n) (hk : fl[k]? = some none) : (sp_B ad cA g f n).set o (ad o, .inr (ci, (fl.mapIdx (sp_fb ad g f o)).set k (.int (Int32.ofInt x)))) = sp_B ad cA (sp_up g o k x) f n := by
  rw [← sp_Bset (g := g) (f := f) (g2 := sp_up g o k x) (f2 := f) h ho (fun p hp j => sp_up_o _ _ _ _ hp) (fun _ _ _ => rfl)]
  congr 2
  simp only [sp_cb]
  congr 2
  apply List.ext_getElem?
  intro j
  by_cases hj : j = k
  · subst hj
    have hl := (List.getElem?_eq_some_iff.mp hk).1
    rw [List.getElem?_set_self (by simpa using hl)]
    simp [List.getElem?_mapIdx, hk, sp_fb, sp_up]
  · rw [List.getElem?_set_ne (fun e => hj e.symm)]
    simp only [List.getElem?_mapIdx]
    cases hs : fl[j]? with
    | none => simp
    | some t =>
      cases t with
      | none => simp only [Option.map_some, sp_fb, sp_up]; rw [if_pos trivial, if_neg (by omega)]
      | some r => simp [sp_fb]
theorem sp_BsetR {ad : Nat → Nat} {cA : Nat → ClassId} {g : sp_G} {f : sp_Fl} {n : Nat} {o k ci r : Nat} {fl : List (Option Nat)} (h : sp_sh[o]? = some (.inl (ci, fl))) (ho : o < n) (hk : fl[k]? = some (some r)) : (sp_B ad cA g f n).set o (ad o, .inr (ci, (fl.mapIdx (sp_fb ad g f o)).set k (.ref (ad r)))) = sp_B ad cA g (sp_fs f o k) n := by
  rw [← sp_Bset (g := g) (f := f) (g2 := g) (f2 := sp_fs f o k) h ho (fun _ _ _ => rfl) (fun p hp j => by simp [sp_fs, hp])]
  congr 2
  simp only [sp_cb]
  congr 2
  apply List.ext_getElem?
  intro j
  by_cases hj : j = k
  · subst hj
    have hl := (List.getElem?_eq_some_iff.mp hk).1
    rw [List.getElem?_set_self (by simpa using hl)]
    simp [List.getElem?_mapIdx, hk, sp_fb, sp_fs]
  · rw [List.getElem?_set_ne (fun e => hj e.symm)]
    simp only [List.getElem?_mapIdx]
    cases hs : fl[j]? with
    | none => simp
    | some t =>
      cases t with
      | none => simp [sp_fb]
      | some r => simp [sp_fb, sp_fs, hj]
theorem sp_BsetA {ad : Nat → Nat} {cA : Nat → ClassId} {g : sp_G} {f : sp_Fl} {n : Nat} {o ki N : Nat} {i x : Int} (h : sp_sh[o]? = some (.inr (ki, N, none))) (ho : o < n) (hi : 0 ≤ i) : (sp_B ad cA g f n).set o (ad o, .inl (cA ki, N, .inl (upd (fun j => Int32.ofInt (g o j)) i.toNat (Int32.ofInt x)))) = sp_B ad cA (sp_up g o i x) f n := by
  rw [← sp_Bset (g := g) (f := f) (g2 := sp_up g o i x) (f2 := f) h ho (fun p hp j => sp_up_o _ _ _ _ hp) (fun _ _ _ => rfl)]
  congr 2
  simp only [sp_cb]
  congr 3
  apply congrArg
  funext j
  by_cases hj : j = i.toNat
  · subst hj
    simp [upd, sp_up, Int.toNat_of_nonneg hi]
  · simp only [upd, if_neg hj, sp_up]
    rw [if_pos trivial, if_neg (by omega)]
theorem sp_BsetQ {ad : Nat → Nat} {cA : Nat → ClassId} {g : sp_G} {f : sp_Fl} {n : Nat} {o N i : Nat} {h : Nat → Nat} (hs : sp_sh[o]? = some (.inr (4, N, some h))) (ho : o < n) : (sp_B ad cA g f n).set o (ad o, .inl (cA 4, N, .inr (.inr (.inr (.inr (va_up (fun j => if f o j then some (ad (h j)) else none) i (some (ad (h i))))))))) = sp_B ad cA g (sp_fs f o i) n := by
  rw [← sp_Bset (g := g) (f := f) (g2 := g) (f2 := sp_fs f o i) hs ho (fun _ _ _ => rfl) (fun p hp j => by simp [sp_fs, hp])]
  congr 2
  simp only [sp_cb]
  congr 7
  funext j
  by_cases hj : j = i
  · subst hj
    simp [va_up, sp_fs]
  · simp [va_up, sp_fs, hj]
/-- a final slot for a reference -/
def sp_fF (own : String) (ci k : Nat) : Prop := ∃ (C : String) (T : u_T) (N : Nat) (ty : FieldType), sp_cl[ci]? = some (C, T, N) ∧ k < N ∧ (T k).2.2.2 = true ∧ (T k).1 = own ∧ parseFieldDescriptor (T k).2.2.1 = some ty ∧ (∀ a, narrow ty (.ref a) = .ref a) ∧ ∀ a, fits ty (.ref a) = true
section BUILD4
variable {M : sp_M} {nn d mc ms pc : Nat} {L L2 : List (Option sp_V)} {st : List sp_V} {x0 y0 n0 : Nat} {g : sp_G} {f : sp_Fl} {Q : sp_BQ}
theorem bw_putI {o k ix ci : Nat} {fl : List (Option Nat)} {x kz : Int} (hd : decode M.2.1 pc = .ok (.putfield ix, 3)) (hf : sp_fl M.1.cls ix ci k) (hi : sp_fi ci k false) (hs : sp_sh[o]? = some (.inl (ci, fl))) (ho : o < n0) (hkk : fl[k]? = some none) (hkz : (k : Int) = kz) (kk : sp_BW M nn d mc ms (pc + 3) L st x0 y0 n0 (sp_up g o kz x) f Q) : sp_BW M nn d mc ms pc L (v_i x :: v_r o :: st) x0 y0 n0 g f Q := by
  intro h0 l D cA ad0 ad p e s m args below meth c C hA0 H locs ls hz hP hD hS hl
  subst hkz
  obtain ⟨Cn, T, N, hc, hk, hw⟩ := hf
  obtain ⟨C2, T2, N2, hc2, -, hfin, hde⟩ := hi
  rw [hc] at hc2
  cases hc2
  obtain ⟨ty0, hty⟩ := sp_tyX hc
  have hde2 : parseFieldDescriptor (T k).2.2.1 = some .int := by rw [hde]; decide +kernel
  refine va_put (D := D) (C := Cn) (T := T) (N := N) (ci := ci) (ty := .int) (v := .int (Int32.ofInt x)) C.1 C.2.1 C.2.2.2.2.2.2.1 (fun w h => List.mem_cons_of_mem _ (sp_inX hc w h)) ty0 hty (sp_nmX hc) C.2.2.2.2.2.1 C.2.2.2.2.2.2.2.1 hP hD hS o (sp_Bg g f hs ho) hc k hk (C.2.2.2.2.2.2.1 _ (List.mem_cons_of_mem _ hw)) (fun _ h9 => h9) hfin hde2 rfl rfl ?_ hd ?_
  · have := (List.getElem?_eq_some_iff.mp hkk).1
    simpa using this
  · intro H1 locs1 hP1 hD1 hS1
    rw [sp_BsetF hs ho hkk] at hP1 hD1
    exact kk h0 l D cA ad0 ad p e s m args below meth c C hA0 H1 locs1 ls hz hP1 hD1 hS1 hl
theorem bw_putZ {o k ix ci : Nat} {fl : List (Option Nat)} {x kz : Int} (hd : decode M.2.1 pc = .ok (.putfield ix, 3)) (hf : sp_fl M.1.cls ix ci k) (hi : sp_fi ci k true) (hs : sp_sh[o]? = some (.inl (ci, fl))) (ho : o < n0) (hkk : fl[k]? = some none) (hkz : (k : Int) = kz) (hb : x = 0 ∨ x = 1) (kk : sp_BW M nn d mc ms (pc + 3) L st x0 y0 n0 (sp_up g o kz x) f Q) : sp_BW M nn d mc ms pc L (v_i x :: v_r o :: st) x0 y0 n0 g f Q := by
  intro h0 l D cA ad0 ad p e s m args below meth c C hA0 H locs ls hz hP hD hS hl
  subst hkz
  obtain ⟨Cn, T, N, hc, hk, hw⟩ := hf
  obtain ⟨C2, T2, N2, hc2, -, hfin, hde⟩ := hi
  rw [hc] at hc2
  cases hc2
  obtain ⟨ty0, hty⟩ := sp_tyX hc
  have hde2 : parseFieldDescriptor (T k).2.2.1 = some .boolean := by rw [hde]; decide +kernel
  refine va_put (D := D) (C := Cn) (T := T) (N := N) (ci := ci) (ty := .boolean) (v := .int (Int32.ofInt x)) C.1 C.2.1 C.2.2.2.2.2.2.1 (fun w h => List.mem_cons_of_mem _ (sp_inX hc w h)) ty0 hty (sp_nmX hc) C.2.2.2.2.2.1 C.2.2.2.2.2.2.2.1 hP hD hS o (sp_Bg g f hs ho) hc k hk (C.2.2.2.2.2.2.1 _ (List.mem_cons_of_mem _ hw)) (fun _ h9 => h9) hfin hde2 (by rcases hb with rfl | rfl <;> rfl) (by rcases hb with rfl | rfl <;> rfl) ?_ hd ?_
  · have := (List.getElem?_eq_some_iff.mp hkk).1
    simpa using this
  · intro H1 locs1 hP1 hD1 hS1
    rw [sp_BsetF hs ho hkk] at hP1 hD1
    exact kk h0 l D cA ad0 ad p e s m args below meth c C hA0 H1 locs1 ls hz hP1 hD1 hS1 hl
theorem bw_putR {o k ix ci r : Nat} {fl : List (Option Nat)} (hd : decode M.2.1 pc = .ok (.putfield ix, 3)) (hf : sp_fl M.1.cls ix ci k) (hi : sp_fF M.1.cls ci k) (hs : sp_sh[o]? = some (.inl (ci, fl))) (ho : o < n0) (hkk : fl[k]? = some (some r)) (hr : r < n0) (kk : sp_BW M nn d mc ms (pc + 3) L st x0 y0 n0 g (sp_fs f o k) Q) : sp_BW M nn d mc ms pc L (v_r r :: v_r o :: st) x0 y0 n0 g f Q := by
  intro h0 l D cA ad0 ad p e s m args below meth c C hA0 H locs ls hz hP hD hS hl
  obtain ⟨Cn, T, N, hc, hk, hw⟩ := hf
  obtain ⟨C2, T2, N2, ty, hc2, -, hfin, hdecl, hde, hnr, hft⟩ := hi
  rw [hc] at hc2
  cases hc2
  obtain ⟨ty0, hty⟩ := sp_tyX hc
  have hz2 : okF (sp_fs f o k) n0 := hz.s (by have e : sp_tg o k = r := by simp [sp_tg, hs, hkk]
                                              omega)
  refine va_putF (D := D) (C := Cn) (T := T) (N := N) (ci := ci) (ty := ty) (v := .ref (ad r)) C.1 C.2.1 C.2.2.2.2.2.2.1 (fun w h => List.mem_cons_of_mem _ (sp_inX hc w h)) ty0 hty (sp_nmX hc) C.2.2.2.2.2.1 C.2.2.2.2.2.2.2.1 hP hD hS o (sp_Bg g f hs ho) hc k hk (C.2.2.2.2.2.2.1 _ (List.mem_cons_of_mem _ hw)) (fun _ h9 => h9) hfin C.2.2.2.2.2.2.2.2.2.2.1 hdecl hde (hnr _) (hft _) ?_ hd ?_
  · have := (List.getElem?_eq_some_iff.mp hkk).1
    simpa using this
  · intro H1 locs1 hP1 hD1 hS1
    rw [sp_BsetR hs ho hkk] at hP1 hD1
    exact kk h0 l D cA ad0 ad p e s m args below meth c C hA0 H1 locs1 ls hz2 hP1 hD1 hS1 hl
theorem bw_iast {o n : Nat} {i x : Int} (hd : decode M.2.1 pc = .ok (.iastore, 1)) (hs : sp_sh[o]? = some (.inr (0, n, none))) (ho : o < n0) (hi : 0 ≤ i ∧ i < n) (k : sp_BW M nn d mc ms (pc + 1) L st x0 y0 n0 (sp_up g o i x) f Q) : sp_BW M nn d mc ms pc L (v_i x :: v_i i :: v_r o :: st) x0 y0 n0 g f Q := by
  intro h0 l D cA ad0 ad p e s m args below meth c C hA0 H locs ls hz hP hD hS hl
  have hn := sp_nlt hs _ _ _ rfl
  refine va_iast (D := D) C.1 C.2.1 C.2.2.2.2.2.2.2.1 hP hD hS o 0 (sp_Bg g f hs ho) rfl (sp_in0 hi hn) hd ?_
  intro H1 locs1 hP1 hD1 hS1
  rw [sp_cl0 hi hn] at hP1 hD1
  rw [sp_BsetA hs ho hi.1] at hP1 hD1
  exact k h0 l D cA ad0 ad p e s m args below meth c C hA0 H1 locs1 ls hz hP1 hD1 hS1 hl
theorem bw_cast {o n : Nat} {i x : Int} (hd : decode M.2.1 pc = .ok (.castore, 1)) (hs : sp_sh[o]? = some (.inr (3, n, none))) (ho : o < n0) (hi : 0 ≤ i ∧ i < n) (hx : vp_nar .char (Int32.ofInt x) = Int32.ofInt x) (k : sp_BW M nn d mc ms (pc + 1) L st x0 y0 n0 (sp_up g o i x) f Q) : sp_BW M nn d mc ms pc L (v_i x :: v_i i :: v_r o :: st) x0 y0 n0 g f Q := by
  intro h0 l D cA ad0 ad p e s m args below meth c C hA0 H locs ls hz hP hD hS hl
  have hn := sp_nlt hs _ _ _ rfl
  refine va_cast (D := D) C.1 C.2.1 C.2.2.2.2.2.2.2.1 hP hD hS o 3 (sp_Bg g f hs ho) rfl (sp_in0 hi hn) hd ?_
  intro H1 locs1 hP1 hD1 hS1
  rw [sp_cl0 hi hn] at hP1 hD1
  rw [hx] at hP1 hD1
  rw [sp_BsetA hs ho hi.1] at hP1 hD1
  exact k h0 l D cA ad0 ad p e s m args below meth c C hA0 H1 locs1 ls hz hP1 hD1 hS1 hl
theorem bw_getR {o k ix ci r : Nat} {fl : List (Option Nat)} (hd : decode M.2.1 pc = .ok (.getfield ix, 3)) (hf : sp_fl M.1.cls ix ci k) (hs : sp_sh[o]? = some (.inl (ci, fl))) (ho : o < n0) (hkk : fl[k]? = some (some r)) (hff : f o k = true) (kk : sp_BW M nn d mc ms (pc + 3) L (v_r r :: st) x0 y0 n0 g f Q) : sp_BW M nn d mc ms pc L (v_r o :: st) x0 y0 n0 g f Q := by
  intro h0 l D cA ad0 ad p e s m args below meth c C hA0 H locs ls hz hP hD hS hl
  obtain ⟨Cn, T, N, hc, hk, hw⟩ := hf
  have K := kk h0 l D cA ad0 ad p e s m args below meth c C hA0 H locs ls hz hP hD hS hl
  refine va_get (D := D) (C := Cn) (T := T) (N := N) (ci := ci) C.1 C.2.1 C.2.2.2.2.2.2.1 (fun w h => List.mem_cons_of_mem _ (sp_inX hc w h)) C.2.2.2.2.2.1 C.2.2.2.2.2.2.2.1 hP o (sp_Bg g f hs ho) hc k hk (C.2.2.2.2.2.2.1 _ (List.mem_cons_of_mem _ hw)) (fun _ h9 => h9) (v := .ref (ad r)) ?_ hd ?_
  · simp [List.getElem?_mapIdx, ‹fl[k]? = _›, sp_fb, hff]
  · exact K
theorem bw_aast {o n : Nat} {h : Nat → Nat} {i : Int} {fl : List (Option Nat)} (hd : decode M.2.1 pc = .ok (.aastore, 1)) (hs : sp_sh[o]? = some (.inr (4, n, some h))) (ho : o < n0) (hi : 0 ≤ i ∧ i < n) (hn : n < 2147483648) (hr : sp_sh[h i.toNat]? = some (.inl (4, fl))) (hrn : h i.toNat < n0) (k : sp_BW M nn d mc ms (pc + 1) L st x0 y0 n0 g (sp_fs f o i.toNat) Q) : sp_BW M nn d mc ms pc L (v_r (h i.toNat) :: v_i i :: v_r o :: st) x0 y0 n0 g f Q := by
  intro h0 l D cA ad0 ad p e s m args below meth c C hA0 H locs ls hz hP hD hS hl
  have hz2 : okF (sp_fs f o i.toNat) n0 := hz.s (by simpa [sp_tg, hs] using hrn)
  refine va_astq (D := D) C.1 C.2.1 C.2.2.2.2.2.2.2.1 hP hD hS o 4 (h i.toNat) 4 (r := (RX4, TX4, 4)) (sp_Bg g f hs ho) rfl (sp_Bg g f hr hrn) rfl (sp_in0 hi hn) hd ?_
  intro H1 locs1 hP1 hD1 hS1
  rw [sp_cl0 hi hn] at hP1 hD1
  rw [sp_BsetQ hs ho] at hP1 hD1
  exact k h0 l D cA ad0 ad p e s m args below meth c C hA0 H1 locs1 ls hz2 hP1 hD1 hS1 hl
theorem bw_ret (hd : decode M.2.1 pc = .ok (.return_, 1)) (hr : M.2.2.2 = none) (hx : x0 = mc) (hy : y0 = ms) (hq : Q n0 g f) : sp_BW M nn d mc ms pc L [] x0 y0 n0 g f Q := by
  intro h0 l D cA ad0 ad p e s m args below meth c C hA0 H locs ls hz hP hD hS hl
  subst hx
  subst hy
  exact W.vret C.1 C.2.1 (C.2.2.2.1.trans hr) (fun t ht _ => ⟨⟨ad, n0, g, f, rfl, hA0, hz, hq, by rw [ht]; exact hP, hD⟩, hS.F ht⟩) hS.2.2 hd (hlocks := C.2.2.2.2.1)
end BUILD4
