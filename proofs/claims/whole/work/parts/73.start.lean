theorem tyX5_d : ∀ j : Nat, j < 8 → defaultValue (tyX5 j) = vp_V (([some 1, some 5, some 39, some 45, some 49, none, none, none] : List (Option Nat)).map (fun x => match x with | none => Value.int 0 | some _ => Value.null)) j
  | 0, _ => rfl
  | 1, _ => rfl
  | 2, _ => rfl
  | 3, _ => rfl
  | 4, _ => rfl
  | 5, _ => rfl
  | 6, _ => rfl
  | 7, _ => rfl
  | n + 8, h => absurd h (by omega)
theorem tyX6_d : ∀ j : Nat, j < 20 → defaultValue (tyX6 j) = vp_V (([some 53, some 54, none, some 55, some 56, some 57, none, none, some 58, some 59, some 60, some 61, none, some 62, some 63, some 64, some 65, none, some 66, none] : List (Option Nat)).map (fun x => match x with | none => Value.int 0 | some _ => Value.null)) j
  | 0, _ => rfl
  | 1, _ => rfl
  | 2, _ => rfl
  | 3, _ => rfl
  | 4, _ => rfl
  | 5, _ => rfl
  | 6, _ => rfl
  | 7, _ => rfl
  | 8, _ => rfl
  | 9, _ => rfl
  | 10, _ => rfl
  | 11, _ => rfl
  | 12, _ => rfl
  | 13, _ => rfl
  | 14, _ => rfl
  | 15, _ => rfl
  | 16, _ => rfl
  | 17, _ => rfl
  | 18, _ => rfl
  | 19, _ => rfl
  | n + 20, h => absurd h (by omega)
theorem clL_7 : Cond.classLink RL 7 RX5 ∈ sp_T := sp_inT (List.mem_of_getElem? (i := 74) (by decide +kernel)) (by decide +kernel)
theorem clL_10 : Cond.classLink RL 10 RX6 ∈ sp_T := sp_inT (List.mem_of_getElem? (i := 745) (by decide +kernel)) (by decide +kernel)
theorem liL_9 : Cond.methodLink RL 9 mX5_init.1 ∈ sp_T := sp_inT (List.mem_of_getElem? (i := 76) (by decide +kernel)) (by decide +kernel)
theorem liL_12 : Cond.methodLink RL 12 mX6_init.1 ∈ sp_T := sp_inT (List.mem_of_getElem? (i := 747) (by decide +kernel)) (by decide +kernel)
/-- the world stands, addresses outside chosen anew -/
theorem sp_doneA {D : va_G} {ad ad2 : Nat → Nat} {cA : Nat → ClassId} {g : sp_G} {f : sp_Fl} {H : Heap} (hf : allF f) (hz : okF f 67) (ha : ∀ o, o < 67 → ad2 o = ad o) (hP : va_P D sp_cl (sp_B ad cA g f 67) H) : va_P D sp_cl (sp_W ad2 cA g) H := by
  intro k q hq
  have hlen : sp_sh.length = 67 := rfl
  simp only [sp_W, List.getElem?_mapIdx] at hq
  cases hs : sp_sh[k]? with
  | none => simp [hs] at hq
  | some t =>
    have hk : k < 67 := by rw [← hlen]; exact (List.getElem?_eq_some_iff.mp hs).1
    simp [hs] at hq
    subst hq
    have h1 := hP k _ (sp_Bg g f (ad := ad) (cA := cA) hs hk)
    rw [ha k hk]
    match t, hs, h1 with
    | .inl (ci, fl), hs, h1 =>
      have e : fl.mapIdx (sp_fb ad g f k) = fl.mapIdx (sp_fv ad2 g k) := by
        apply List.ext_getElem?
        intro j
        rw [List.getElem?_mapIdx, List.getElem?_mapIdx]
        cases hj : fl[j]? with
        | none => rfl
        | some x =>
          cases x with
          | none => rfl
          | some r =>
            have h2 := hf.1 k ci fl j r hs hj
            have h3 := hz k j h2
            have h4 : sp_tg k j = r := by simp [sp_tg, hs, hj]
            rw [h4] at h3
            simp [sp_fb, sp_fv, h2, ha r h3]
      simp only [sp_cb, e] at h1
      exact h1
    | .inr (ki, n, none), hs, h1 => exact h1
    | .inr (ki, n, some h), hs, h1 =>
      have h2 : H[ad k]? = some (arrV (cA ki) n (fun j => va_rf (if f k j then some (ad (h j)) else none))) := h1
      show H[ad k]? = some (arrV (cA ki) n (fun j => va_rf (some (ad2 (h j)))))
      rw [h2]
      congr 1
      unfold arrV
      congr 2
      funext j
      have h5 := hf.2 k ki n h j.val hs j.isLt
      have h3 := hz k j.val h5
      have h4 : sp_tg k j.val = h j.val := by simp [sp_tg, hs]
      rw [h4] at h3
      show va_rf (if f k j.val = true then some (ad (h j.val)) else none) = va_rf (some (ad2 (h j.val)))
      rw [if_pos h5, ha _ h3]
theorem sp_doneD {ad ad2 : Nat → Nat} {cA : Nat → ClassId} {A : Nat → Prop} {g : sp_G} {f : sp_Fl} (ha : ∀ o, o < 67 → ad2 o = ad o) (hD : va_D A (sp_B ad cA g f 67)) : (∀ o, o < 67 → A (ad2 o)) ∧ ∀ g2 : sp_G, va_D (sp_A ad2) (sp_W ad2 cA g2) := by
  have hlen : sp_sh.length = 67 := rfl
  have at0 : ∀ o, o < 67 → ∃ e, (sp_B ad cA g f 67)[o]? = some (ad o, e) := by
    intro o ho
    have hs : sp_sh[o]? = some (sp_sh[o]'(by rw [hlen]; exact ho)) := List.getElem?_eq_getElem _
    exact ⟨_, sp_Bg g f hs ho⟩
  refine ⟨fun o ho => ?_, fun g2 => ⟨fun i j p q hp hq e => ?_, fun k q hq => ?_⟩⟩
  · obtain ⟨e, h1⟩ := at0 o ho
    rw [ha o ho]
    exact hD.2 o _ h1
  · have key : ∀ (i : Nat) (p : Nat × va_E), (sp_W ad2 cA g2)[i]? = some p → i < 67 ∧ p.1 = ad2 i := by
      intro i p hp
      simp only [sp_W, List.getElem?_mapIdx] at hp
      cases hs : sp_sh[i]? with
      | none => simp [hs] at hp
      | some t =>
        simp [hs] at hp
        exact ⟨by rw [← hlen]; exact (List.getElem?_eq_some_iff.mp hs).1, by rw [← hp]⟩
    obtain ⟨i1, i2⟩ := key i p hp
    obtain ⟨j1, j2⟩ := key j q hq
    obtain ⟨e1, h1⟩ := at0 i i1
    obtain ⟨e2, h2⟩ := at0 j j1
    exact hD.1 i j _ _ h1 h2 (by show ad i = ad j; rw [← ha i i1, ← ha j j1, ← i2, ← j2]; exact e)
  · simp only [sp_W, List.getElem?_mapIdx] at hq
    cases hs : sp_sh[k]? with
    | none => simp [hs] at hq
    | some t =>
      simp [hs] at hq
      exact ⟨k, by rw [← hlen]; exact (List.getElem?_eq_some_iff.mp hs).1, by rw [← hq]⟩
theorem sp_zero {ad : Nat → Nat} {cA : Nat → ClassId} {g : sp_G} {f : sp_Fl} {n q ci : Nat} {fl : List (Option Nat)} (hg : ∀ k, g n k = 0) (hf : ∀ k, f n k = false) : sp_cb (sp_ex ad n q) cA g f n (.inl (ci, fl)) = .inr (ci, fl.map (fun x => match x with | none => Value.int 0 | some _ => Value.null)) := by
  simp only [sp_cb]
  congr 2
  apply List.ext_getElem?
  intro j
  rw [List.getElem?_mapIdx, List.getElem?_map]
  cases fl[j]? with
  | none => rfl
  | some x =>
    cases x with
    | none => simp [sp_fb, hg]
    | some r => simp [sp_fb, hf]
section START
variable {p : Program} {l : Launch} {e : Env} {s : State} {m : MethodId} {b : Nat} {below : List Frame} {meth : Method} {c : Code} {Qz : State → Prop}
/-- a constructor called by the law -/
theorem lw_I {D : va_G} {cA : Nat → ClassId} {M2 : sp_M} {ad : Nat → Nat} {pc o n0 ix d x0 y0 mc2 ms2 : Nat} {g : sp_G} {f : sp_Fl} {Q : sp_BQ} {H : Heap} {locs : List Loc} {ls : Array Slot} {rest : List Value}
    (hx : p.tables.exec = Jvm.exec) (hb : c.code = code) (hml : c.maxLocals = 4) (hown : s.vm.findClass R_law = some m.cls) (hts : ∀ w ∈ sp_T, w.before #[Value.ref b] s = true) (hK : va_K D sp_cl (sp_ty cA) s) (hN : sp_Nst s) (hAO : va_AO "StylePapers$Town" s)
    (hz : okF f n0) (hP : va_P D sp_cl (sp_B ad cA g f n0) H) (hD : va_D (fun q => s.heap.size ≤ q) (sp_B ad cA g f n0)) (hS : va_S (fun q => s.heap.size ≤ q) s.heap H locs) (hl : ls.size = 4)
    (hd : decode code pc = .ok (.invokespecial ix, 3)) (hok : sp_okI M2) (hw : Cond.methodLink RL ix M2.1 ∈ sp_T) (hdd : d ≤ 10) (hx0 : x0 + mc2 ≤ 600000) (hy0 : y0 + ms2 ≤ 7302250) (hc : (rest.map fun v => v.category).sum ≤ 8)
    (hM : sp_BMet d mc2 ms2 M2 o n0 g f Q)
    (k : ∀ (ad2 : Nat → Nat) (n2 : Nat) (g2 : sp_G) (f2 : sp_Fl) (H2 : Heap) (locs2 : List Loc), (∀ q, q < n0 → ad2 q = ad q) → okF f2 n2 → Q n2 g2 f2 → va_P D sp_cl (sp_B ad2 cA g2 f2 n2) H2 → va_D (fun q => s.heap.size ≤ q) (sp_B ad2 cA g2 f2 n2) → va_S (fun q => s.heap.size ≤ q) s.heap H2 locs2 → W p l e room_1 s m #[Value.ref b] below meth c H2 locs2 (x0 + mc2) (y0 + ms2) Qz (F0 m (pc + 3) ls rest)) : W p l e room_1 s m #[Value.ref b] below meth c H locs x0 y0 Qz (F0 m pc ls (.ref (ad o) :: rest)) := by
  obtain ⟨o1, o2, o3, o4, o5, o6, o7, o8⟩ := hok
  have cb := callB_of (R := room_1) (own := RL) (rm := sp_rb d mc2 ms2) (mc := mc2) (ms := ms2) 0 hts (lw_good (M2 := M2) (by rw [o8]; exact o1)) rfl rfl rfl (hts _ o2) (hts _ hw) ⟨o4.1, o4.2, o5⟩ ⟨by show d + 1 ≤ 12; omega, by show 8 + (M2.2.2.1 + 11) + 38 * d ≤ 430; omega⟩
  have hr := va_runI (l := l) (e := e) (below := below) (meth := meth) (locs := locs) (cells := x0) (slots := y0) (g := F0 m pc ls (.ref (ad o) :: rest)) (rest := rest) (b := ad o) (As := []) (nL := 4) (cc := code) (H := H) ⟨hx, hb, hml, hown, hts⟩ (hM s.heap.size l D cA ad) ⟨by rw [o8] at cb; exact cb, o7, hts _ o3⟩ ⟨sp_bbl, fun U hU hW => ⟨rfl, hz, by rw [hU]; exact hS.1, by rw [hU]; exact hP, va_K.moved hW.alike hK, hD, sp_Nst.warm hW hN, va_AO.moved hW.alike hAO⟩⟩ rfl rfl hl rfl (lv_room hc) hd ⟨hx0, hy0⟩
  intro T hT X
  obtain ⟨v, st₀, t, T', L2, h0', X', hL2, e1, e2, ⟨⟨ad2, n2, g2, f2, hv, ha, hz2, hk, hP2, hD2⟩, hzz, hkk⟩, sg⟩ := hr T hT X
  cases hv
  rw [h0'] at hzz hkk
  have hS2 : va_S (fun q => s.heap.size ≤ q) s.heap T'.heap (locs ++ L2) := by
    refine ⟨Nat.le_trans hS.1 (by rw [e1]; exact hzz), fun q h1 h2 => ?_, fun q hq => ?_⟩
    · rw [e1, hkk q (Nat.lt_of_lt_of_le h1 hS.1) h2]
      exact hS.2.1 q h1 h2
    · rcases List.mem_append.mp hq with h | h
      · exact hS.2.2 q h
      · exact hL2 q h
  obtain ⟨t2, a1, b1⟩ := k ad2 n2 g2 f2 T'.heap (locs ++ L2) ha hz2 hk (by rw [e1]; exact hP2) hD2 hS2 T' rfl X'
  exact ⟨t2, sg t2 a1, b1⟩
end START
/-- THE LAW, from its entry -/
theorem whole_start {p : Program} {e : Env} {s : State} {m : MethodId} {below : List Frame} {meth : Method} {c : Code} (l : Launch) (hflags : l.flags = flags0) {b L : Nat} {xs : Nat → Int32} (hL : L ≤ 2560) (C0 : lw_At p s m meth c b L xs) : W p l e room_1 s m #[Value.ref b] below meth c s.heap [] 0 0 (lw_Z below #[Value.ref b] s) (entryFrame m ([Value.ref b] : List Value).toArray 4) := by
  obtain ⟨hx, hb, hr, hml, hown, hts0, hX, hbl, hlocks, hgv⟩ := id C0
  have hts := lw_T hts0
  have hAO : va_AO "StylePapers$Town" s := va_AO.of (hts0 _ lw_h8)
  have hN := lw_N hts0
  obtain ⟨D, cA, hK⟩ := lw_K hts0 hAO
  obtain ⟨ex, hEx⟩ := lw_ext hts0 hgv
  have hA : ∀ q : Nat, s.heap.size ≤ q → (fun q : Nat => s.heap.size ≤ q) q := fun _ h => h
  have hS : va_S (fun q : Nat => s.heap.size ≤ q) s.heap s.heap [] := va_S.rf
  have hP : va_P D sp_cl [] s.heap := fun k q h => by simp at h
  have hD : va_D (fun q : Nat => s.heap.size ≤ q) [] := ⟨fun i j p q h => by simp at h, fun k q h => by simp at h⟩
  have hl := lv_entry ([.ref b]) (n := 4) (Nat.le_of_ble_eq_true rfl)
  rw [lg_entry_eq]
  generalize (lg_sl ([.ref b]) ++ List.replicate (4 - (lg_sl ([.ref b])).length) Slot.unset).toArray = ls at hl ⊢
  have hl : lv_has ls 4 [(0, .ref b)] := hl
  refine va_new (D := D) (ci := 5) (C := RX5) (T := TX5) (N := 8) (fs := ([some 1, some 5, some 39, some 45, some 49, none, none, none] : List (Option Nat)).map (fun x => match x with | none => Value.int 0 | some _ => Value.null)) hx hb hts sp_inX5 tyX5 tyX5_ok hown (hts _ clL_7) (hts _ istX5) (hts _ iniX5) hK hP hD hS hA rfl tyX5_d (Nat.le_of_ble_eq_true rfl) (Nat.le_of_ble_eq_true rfl) dL_law_0 (fun q0 H hP hD hS => ?_)
  have z0 : okF (fun _ _ => false) 0 := fun o k h => by cases h
  have g0 := sp_grow (n0 := 0) (g := fun _ _ => 0) (f := fun _ _ => false) (ad := fun _ => 0) (cA := cA) (q := q0) (s := .inl (5, [some 1, some 5, some 39, some 45, some 49, none, none, none])) rfl z0 (sp_zero (fun _ => rfl) (fun _ => rfl))
  have g0 : ([] ++ [(q0, .inr (5, ([some 1, some 5, some 39, some 45, some 49, none, none, none] : List (Option Nat)).map (fun x => match x with | none => Value.int 0 | some _ => Value.null)))] : va_W) = sp_B (sp_ex (fun _ => 0) 0 q0) cA (fun _ _ => 0) (fun _ _ => false) 1 := g0
  rw [g0] at hP hD
  refine lv_dup hx hb dL_law_3 rfl ?_
  have ea : sp_ex (fun _ => 0) 0 q0 0 = q0 := sp_ex_n _ _ _
  refine lw_I (ad := sp_ex (fun _ => 0) 0 q0) (o := 0) (x0 := 0 + 1) (y0 := 0 + 8) (rest := [.ref q0]) hx hb hml hown hts hK hN hAO (z0.m (by decide)) hP hD hS hl.1 dL_law_4 okX5_init liL_9 (by decide) (Nat.le_of_ble_eq_true rfl) (Nat.le_of_ble_eq_true rfl) (by simp [Value.category]) (bX5 0) ?_
  intro ad1 n1 g1 f1 H1 locs1 ha1 hz1 hQ1 hP1 hD1 hS1
  have hn1 : n1 = 52 := hQ1.1
  subst hn1
  have e10 : ad1 0 = q0 := (ha1 0 (by decide)).trans ea
  refine lv_astore_n (lv' := [(1, .ref q0), (0, .ref b)]) hx hb dL_law_7 rfl hl (by decide) rfl (fun ls hl => ?_)
  refine va_new (D := D) (ci := 6) (C := RX6) (T := TX6) (N := 20) (fs := ([some 53, some 54, none, some 55, some 56, some 57, none, none, some 58, some 59, some 60, some 61, none, some 62, some 63, some 64, some 65, none, some 66, none] : List (Option Nat)).map (fun x => match x with | none => Value.int 0 | some _ => Value.null)) hx hb hts sp_inX6 tyX6 tyX6_ok hown (hts _ clL_10) (hts _ istX6) (hts _ iniX6) hK hP1 hD1 hS1 hA rfl tyX6_d (Nat.le_of_ble_eq_true rfl) (Nat.le_of_ble_eq_true rfl) dL_law_8 (fun q1 H2 hP2 hD2 hS2 => ?_)
  rw [sp_grow (n0 := 52) (s := .inl (6, [some 53, some 54, none, some 55, some 56, some 57, none, none, some 58, some 59, some 60, some 61, none, some 62, some 63, some 64, some 65, none, some 66, none])) rfl hz1 (sp_zero (hQ1.2.2.2.1 52 (by decide)) (hQ1.2.2.2.2.1 52 (by decide)))] at hP2 hD2
  refine lv_dup hx hb dL_law_11 rfl ?_
  have eb : sp_ex ad1 52 q1 52 = q1 := sp_ex_n _ _ _
  refine lw_I (ad := sp_ex ad1 52 q1) (o := 52) (x0 := 0 + 1 + 51 + 1) (y0 := 0 + 8 + 1776 + 20) (rest := [.ref q1]) hx hb hml hown hts hK hN hAO (hz1.m (by decide)) hP2 hD2 hS2 hl.1 dL_law_12 okX6_init liL_12 (by decide) (Nat.le_of_ble_eq_true rfl) (Nat.le_of_ble_eq_true rfl) (by simp [Value.category]) (bX6 0 hQ1) ?_
  intro ad2 n2 g2 f2 H3 locs3 ha2 hz2 hQ2 hP3 hD3 hS3
  obtain ⟨hn2, hall, hC, hM⟩ := hQ2
  subst hn2
  have e20 : ad2 0 = q0 := (ha2 0 (by decide)).trans ((sp_ex_o (by decide)).trans e10)
  have e21 : ad2 52 = q1 := (ha2 52 (by decide)).trans eb
  refine lv_astore_n (lv' := [(2, .ref q1), (1, .ref q0), (0, .ref b)]) hx hb dL_law_15 rfl hl (by decide) rfl (fun ls hl => ?_)
  refine lv_iconst (v := 0) hx hb dL_law_16 (by decide) ?_
  refine lv_istore_n (lv' := [(3, .int 0), (2, .ref q1), (1, .ref q0), (0, .ref b)]) hx hb dL_law_17 rfl hl (by decide) rfl (fun ls hl => ?_)
  refine W.widen (k := 600000) (n := 7302250) (Nat.le_of_ble_eq_true rfl) (Nat.le_of_ble_eq_true rfl) ?_
  have ha : ∀ o, o < 67 → (fun o => if o < 67 then ad2 o else if o = 90 then b else ex o) o = ad2 o := fun o ho => if_pos ho
  have hP4 := sp_doneA (ad2 := fun o => if o < 67 then ad2 o else if o = 90 then b else ex o) hall hz2 ha hP3
  obtain ⟨hlo, hD4⟩ := sp_doneD (ad2 := fun o => if o < 67 then ad2 o else if o = 90 then b else ex o) ha hD3
  have hE := hEx (fun o => if o < 67 then ad2 o else if o = 90 then b else ex o) hlo (fun o h1 h2 => by
    show (if o < 67 then ad2 o else if o = 90 then b else ex o) = ex o
    rw [if_neg (by omega), if_neg (by omega)])
  refine lw_loop hL L 0 0 zI g2 (by omega) (by omega) (by decide) hC hM zI_V p l e s m b below meth c D cA (fun o => if o < 67 then ad2 o else if o = 90 then b else ex o) ⟨C0, hL, hK, hN, hE, hlo, hD4, rfl⟩ H3 locs3 ls hP4 hS3 ?_
  refine ⟨hl.1, hl.2.1, fun q hq => hl.2.2 q ?_⟩
  have hq : q ∈ [(0, Value.ref b), (1, Value.ref (ad2 0)), (2, Value.ref (ad2 52)), (3, Value.int (Int32.ofInt 0))] := hq
  rw [e20, e21] at hq
  simp only [List.mem_cons, List.not_mem_nil, or_false] at hq ⊢
  rcases hq with h | h | h | h
  · exact Or.inr (Or.inr (Or.inr h))
  · exact Or.inr (Or.inr (Or.inl h))
  · exact Or.inr (Or.inl h)
  · exact Or.inl h
