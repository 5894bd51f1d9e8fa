theorem sp_ex_n (ad : Nat → Nat) (n q : Nat) : sp_ex ad n q n = q := by simp [sp_ex]
theorem sp_ex_o {ad : Nat → Nat} {n q o : Nat} (h : o < n) : sp_ex ad n q o = ad o := by simp [sp_ex]; omega
theorem okF.m {f : sp_Fl} {n m : Nat} (h : okF f n) (hm : n ≤ m) : okF f m := fun o k q => Nat.lt_of_lt_of_le (h o k q) hm
theorem okF.s {f : sp_Fl} {n o k : Nat} (h : okF f n) (hk : sp_tg o k < n) : okF (sp_fs f o k) n := by
  intro p j q
  by_cases c : p = o ∧ j = k
  · rw [c.1, c.2]; exact hk
  · simp only [sp_fs, if_neg c] at q; exact h p j q
section BUILD3
variable {M : sp_M} {nn d mc ms pc : Nat} {L L2 : List (Option sp_V)} {st : List sp_V} {x0 y0 n0 : Nat} {g : sp_G} {f : sp_Fl} {Q : sp_BQ}
theorem sp_grow {ad : Nat → Nat} {cA : Nat → ClassId} {q : Nat} {s : sp_S} {E : va_E} (hs : sp_sh[n0]? = some s) (hz : okF f n0) (hE : sp_cb (sp_ex ad n0 q) cA g f n0 s = E) : sp_B ad cA g f n0 ++ [(q, E)] = sp_B (sp_ex ad n0 q) cA g f (n0 + 1) := by
  rw [sp_Bn hs, sp_ex_B hz, sp_ex_n, hE]
theorem sp_stk {ad : Nat → Nat} {q : Nat} (hst : st.all (fun v => sp_nr n0 (some v)) = true) : (v_r n0 :: st).map (sp_cv (sp_ex ad n0 q)) = Value.ref q :: st.map (sp_cv ad) := by
  rw [List.map_cons, sp_ex_st hst]
  simp [sp_cv, sp_ex_n]
theorem bw_new {ix ci N : Nat} {fl : List (Option Nat)} {Cn : String} {T : u_T} {ty : Nat → FieldType} (hd : decode M.2.1 pc = .ok (.new ix, 3)) (hs : sp_sh[n0]? = some (.inl (ci, fl))) (hc : sp_cl[ci]? = some (Cn, T, N)) (hcl : Cond.classLink M.1.cls ix Cn ∈ sp_T) (hin : Cond.instantiable Cn N ∈ sp_T) (hini : Cond.initialized Cn ∈ sp_T) (hty : ∀ k, k < N → parseFieldDescriptor (T k).2.2.1 = some (ty k)) (hfs : ∀ j, j < N → defaultValue (ty j) = vp_V (fl.map (fun x => match x with | none => Value.int 0 | some _ => Value.null)) j) (hg : ∀ k, g n0 k = 0) (hf : ∀ k, f n0 k = false) (hL : L.all (sp_nr n0) = true) (hst : st.all (fun v => sp_nr n0 (some v)) = true) (hnn : nn ≤ n0) (hx : x0 + 1 ≤ mc) (hy : y0 + N ≤ ms) (k : sp_BW M nn d mc ms (pc + 3) L (v_r n0 :: st) (x0 + 1) (y0 + N) (n0 + 1) g f Q) : sp_BW M nn d mc ms pc L st x0 y0 n0 g f Q := by
  intro h0 l D cA ad0 ad p e s m args below meth c C hA0 H locs ls hz hP hD hS hl
  have hts := C.2.2.2.2.2.2.1
  refine va_new (D := D) (ci := ci) C.1 C.2.1 hts (fun w h => List.mem_cons_of_mem _ (sp_inX hc w h)) ty hty C.2.2.2.2.2.1 (hts _ (List.mem_cons_of_mem _ hcl)) (hts _ (List.mem_cons_of_mem _ hin)) (hts _ (List.mem_cons_of_mem _ hini)) C.2.2.2.2.2.2.2.1 hP hD hS (fun q hq => Nat.le_trans C.2.2.2.2.2.2.2.2.2.1 hq) hc hfs hx hy hd (fun q H1 hP1 hD1 hS1 => ?_)
  have hfl : sp_cb (sp_ex ad n0 q) cA g f n0 (.inl (ci, fl)) = .inr (ci, fl.map (fun x => match x with | none => Value.int 0 | some _ => Value.null)) := by
    simp only [sp_cb]
    congr 2
    apply List.ext_getElem?
    intro j
    rw [List.getElem?_mapIdx, List.getElem?_map]
    cases fl[j]? with
    | none => rfl
    | some x =>
      cases x with
      | none => simp [sp_fb, hg]
      | some r => simp [sp_fb, hf]
  rw [sp_grow hs hz hfl] at hP1 hD1
  have K := k h0 l D cA ad0 (sp_ex ad n0 q) p e s m args below meth c C (fun o ho => (sp_ex_o (by omega)).trans (hA0 o ho)) H1 locs ls (hz.m (by omega)) hP1 hD1 hS1 (by rw [sp_ex_lv hL]; exact hl)
  rw [sp_stk hst] at K
  exact K
theorem bw_newa {at_ : ArrayType} {ki N : Nat} {ty : FieldType} (hd : decode M.2.1 pc = .ok (.newarray at_, 2)) (hs : sp_sh[n0]? = some (.inr (ki, N, none))) (hty : newarray.typeOf at_ = ty) (hdf : defaultValue ty = .int 0) (hRA : ∀ (U : State) (c1 : ClassId), va_RA U c1 ty → U.vm.findClass ("[" ++ ty.toString) = some c1) (hki : ∀ cA : Nat → ClassId, (sp_ty cA)[ki]? = some (cA ki, ty)) (harr : Cond.arrayClass ty ∈ sp_T) (hn0 : ¬ Int32.ofInt N < 0) (hc0 : (Int32.ofInt N).toNatClampNeg = N) (hby : N * componentBytes ty ≤ 536870912) (hg : ∀ k, g n0 k = 0) (hL : L.all (sp_nr n0) = true) (hst : st.all (fun v => sp_nr n0 (some v)) = true) (hnn : nn ≤ n0) (hx : x0 + 1 ≤ mc) (hy : y0 + N ≤ ms) (k : sp_BW M nn d mc ms (pc + 2) L (v_r n0 :: st) (x0 + 1) (y0 + N) (n0 + 1) g f Q) : sp_BW M nn d mc ms pc L (v_i N :: st) x0 y0 n0 g f Q := by
  intro h0 l D cA ad0 ad p e s m args below meth c C hA0 H locs ls hz hP hD hS hl
  have hts := C.2.2.2.2.2.2.1
  subst hty
  have ha : ∀ c1 : ClassId, vp_cell c1 (N, .inl (fun j => Int32.ofInt (g n0 j))) = arrV c1 N (fun _ => defaultValue (newarray.typeOf at_)) := by
    intro c1
    rw [hdf]
    simp only [hg]
    rfl
  refine va_newa (D := D) C.1 C.2.1 (hts _ (List.mem_cons_of_mem _ harr)) rfl C.2.2.2.2.2.2.2.1 hP hD hS (fun q hq => Nat.le_trans C.2.2.2.2.2.2.2.2.2.1 hq) ha hn0 hc0 hby hx hy hd (fun q c1 H1 hK1 hP1 hD1 hS1 => ?_)
  have hcA : c1 = cA ki := by
    have h2 := hRA _ _ (C.2.2.2.2.2.2.2.1.2 ki _ (hki cA)).2
    have h3 := hRA _ _ (hK1.2 (sp_ty cA).length (c1, newarray.typeOf at_) (by simp)).2
    exact Option.some.inj (h3.symm.trans h2)
  subst hcA
  have hE : sp_cb (sp_ex ad n0 q) cA g f n0 (.inr (ki, N, none)) = .inl (cA ki, N, .inl (fun j => Int32.ofInt (g n0 j))) := rfl
  rw [sp_grow hs hz hE] at hP1 hD1
  have K := k h0 l D cA ad0 (sp_ex ad n0 q) p e s m args below meth c C (fun o ho => (sp_ex_o (by omega)).trans (hA0 o ho)) H1 locs ls (hz.m (by omega)) hP1 hD1 hS1 (by rw [sp_ex_lv hL]; exact hl)
  rw [sp_stk hst] at K
  exact K
theorem bw_newq {ix N : Nat} {h : Nat → Nat} (hd : decode M.2.1 pc = .ok (.anewarray ix, 3)) (hs : sp_sh[n0]? = some (.inr (4, N, some h))) (hcl : Cond.classLink M.1.cls ix "StylePapers$Town" ∈ sp_T) (hn0 : ¬ Int32.ofInt N < 0) (hc0 : (Int32.ofInt N).toNatClampNeg = N) (hby : N * 4 ≤ 536870912) (hf : ∀ k, f n0 k = false) (hL : L.all (sp_nr n0) = true) (hst : st.all (fun v => sp_nr n0 (some v)) = true) (hnn : nn ≤ n0) (hx : x0 + 1 ≤ mc) (hy : y0 + N ≤ ms) (k : sp_BW M nn d mc ms (pc + 3) L (v_r n0 :: st) (x0 + 1) (y0 + N) (n0 + 1) g f Q) : sp_BW M nn d mc ms pc L (v_i N :: st) x0 y0 n0 g f Q := by
  intro h0 l D cA ad0 ad p e s m args below meth c C hA0 H locs ls hz hP hD hS hl
  have hts := C.2.2.2.2.2.2.1
  refine va_newq (D := D) C.1 C.2.1 C.2.2.2.2.2.1 (hts _ (List.mem_cons_of_mem _ hcl)) C.2.2.2.2.2.2.2.2.2.2.2 C.2.2.2.2.2.2.2.1 hP hD hS (fun q hq => Nat.le_trans C.2.2.2.2.2.2.2.2.2.1 hq) hn0 hc0 hby hx hy hd (fun q c1 H1 hK1 hP1 hD1 hS1 => ?_)
  have hcA : c1 = cA 4 := by
    obtain ⟨k1, m1, -, -, -, h2⟩ := (C.2.2.2.2.2.2.2.1.2 4 _ (show (sp_ty cA)[4]? = some (cA 4, .object "StylePapers$Town") from rfl)).2
    obtain ⟨k2, m2, -, -, -, h3⟩ := (hK1.2 (sp_ty cA).length (c1, .object "StylePapers$Town") (by simp)).2
    exact Option.some.inj (h3.symm.trans h2)
  subst hcA
  have hE : sp_cb (sp_ex ad n0 q) cA g f n0 (.inr (4, N, some h)) = .inl (cA 4, N, .inr (.inr (.inr (.inr (fun _ => none))))) := by
    simp [sp_cb, hf]
  rw [sp_grow hs hz hE] at hP1 hD1
  have K := k h0 l D cA ad0 (sp_ex ad n0 q) p e s m args below meth c C (fun o ho => (sp_ex_o (by omega)).trans (hA0 o ho)) H1 locs ls (hz.m (by omega)) hP1 hD1 hS1 (by rw [sp_ex_lv hL]; exact hl)
  rw [sp_stk hst] at K
  exact K
end BUILD3
