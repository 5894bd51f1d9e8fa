theorem sp_bof {d mc ms o n : Nat} {M : sp_M} {g : sp_G} {f : sp_Fl} {Q : sp_BQ} {L : List (Option sp_V)} (hpl : plainName M.1.cls = true) (hn : 1 ≤ M.2.2.1) (hnm : M.1.name = "<init>") (hL : sp_ent [v_r o] M.2.2.1 = L) (k : sp_BW M n d mc ms 0 L [] 0 0 n g f Q) : sp_BMet d mc ms M o n g f Q := by
  intro h0 l D cA ad
  refine Met.ofW (cc := M.2.1) (maxL := M.2.2.1) (ret := M.2.2.2) hpl rfl ?_
  intro p e s m args below meth c s₁ B hml hv
  obtain ⟨rfl, hz, hh, hP, hK, hD, hN, hAO⟩ := hv
  have hts := atoms_spec (ws := sp_ws M) B.pre
  have hown : s.vm.findClass M.1.cls = some m.cls := findClass_of_methodNamed B.named
  have hin : meth.name = "<init>" := (name_of_methodNamed B.named B.method).1.trans hnm
  have hsl : lg_sl [.ref (ad o)] = [Slot.val (.ref (ad o))] := by simp [lg_sl, Value.category]
  have hlv := lv_entry [.ref (ad o)] (n := M.2.2.1) (by rw [hsl]; exact hn)
  have hl2 : lv_has ((lg_sl [.ref (ad o)] ++ List.replicate (M.2.2.1 - (lg_sl [.ref (ad o)]).length) Slot.unset).toArray) M.2.2.1 (sp_lv ad 0 L) := by
    refine ⟨hlv.1, hlv.2.1, fun q hq => hlv.2.2 q ?_⟩
    rw [← hL] at hq
    simp only [sp_ent, List.map_cons, List.map_nil, List.cons_append, List.nil_append, sp_lv, List.mem_cons] at hq
    rcases hq with h | h
    · rw [h]; simp [lv_args, Value.category, sp_cv]
    · exfalso
      obtain ⟨i, v, h1, -⟩ := sp_lv_mem.mp h
      simp [List.getElem?_replicate] at h1
  rw [lg_entry_eq]
  exact k h0 l D cA ad ad p e s m _ below meth c ⟨B.exec, B.bytes, hml, B.returns, B.notSynchronized, hown, hts, hK, hN, hh, hin, hAO⟩ (fun _ _ => rfl) s.heap [] _ hz hP hD va_S.rf hl2
def sp_lr (n : Nat) : Option sp_V → Bool
  | some (.inr (.inr r)) => decide (r < n)
  | _ => true
theorem sp_lr_cv {ad ad2 : Nat → Nat} {n : Nat} (ha : ∀ o, o < n → ad2 o = ad o) {v : sp_V} (h : sp_lr n (some v) = true) : sp_cv ad2 v = sp_cv ad v := by
  match v with
  | .inl x => rfl
  | .inr (.inl x) => rfl
  | .inr (.inr r) =>
    have h2 : r < n := by simpa [sp_lr] using h
    simp [sp_cv, ha r h2]
theorem sp_lr_st {ad ad2 : Nat → Nat} {n : Nat} (ha : ∀ o, o < n → ad2 o = ad o) {st : List sp_V} (h : st.all (fun v => sp_lr n (some v)) = true) : st.map (sp_cv ad2) = st.map (sp_cv ad) := by
  apply List.map_congr_left
  intro v hv
  exact sp_lr_cv ha (List.all_eq_true.mp h v hv)
theorem sp_lr_lv {ad ad2 : Nat → Nat} {n : Nat} (ha : ∀ o, o < n → ad2 o = ad o) : ∀ {L : List (Option sp_V)} {k : Nat}, L.all (sp_lr n) = true → sp_lv ad2 k L = sp_lv ad k L
  | [], _, _ => rfl
  | none :: t, k, h => by
    simp only [List.all_cons, Bool.and_eq_true] at h
    rw [sp_lv, sp_lv]
    exact sp_lr_lv ha h.2
  | some v :: t, k, h => by
    simp only [List.all_cons, Bool.and_eq_true] at h
    rw [sp_lv, sp_lv, sp_lr_cv ha h.1, sp_lr_lv ha h.2]
def sp_okI (M : sp_M) : Prop := Cond.code M.1 M.2.1 M.2.2.1 none ∈ sp_T ∧ Cond.initialized M.1.cls ∈ sp_T ∧ Cond.instanceMethod M.1 ∈ sp_T ∧ (M.1.cls ≠ "java/lang/invoke/MethodHandle" ∧ M.1.cls ≠ "java/lang/invoke/VarHandle") ∧ (parseMethodDescriptor M.1.desc).map (fun q => q.parameters.length) = some 0 ∧ M.2.2.1 ≤ 19 ∧ M.1.name = "<init>" ∧ M.2.2.2 = none
section BUILD5
variable {M : sp_M} {nn d mc ms pc : Nat} {L L2 : List (Option sp_V)} {st : List sp_V} {x0 y0 n0 : Nat} {g : sp_G} {f : sp_Fl} {Q : sp_BQ}
theorem bw_obj {ix o : Nat} (hd : decode M.2.1 pc = .ok (.invokespecial ix, 3)) (hw : Cond.methodLink M.1.cls ix Lib.objectInit ∈ sp_T) (hi : Cond.instanceMethod Lib.objectInit ∈ sp_T) (hcd : Cond.code Lib.objectInit ⟨#[0xb1]⟩ 1 none ∈ sp_T) (hc : (st.map (fun v => if sp_c1 v = true then 1 else 2)).sum ≤ 8) (k : sp_BW M nn (d + 1) mc ms (pc + 3) L st x0 y0 n0 g f Q) : sp_BW M nn (d + 1) mc ms pc L (v_r o :: st) x0 y0 n0 g f Q := by
  intro h0 l D cA ad0 ad p e s m args below meth c C hA0 H locs ls hz hP hD hS hl
  have hts := C.2.2.2.2.2.2.1
  have hcat := sp_cat (ad := ad) hc
  refine W.objInit C.1 C.2.1 C.2.2.2.2.2.1 (hts _ (List.mem_cons_of_mem _ hw)) (hts _ (List.mem_cons_of_mem _ hi)) (hts _ (List.mem_cons_of_mem _ hcd)) rfl (by rw [C.2.2.1]; exact hl.1) rfl hd (by show 1 ≤ d + 1; omega) (by show 2 * 0 + _ + 12 ≤ 38 * (d + 1); omega) ?_
  exact k h0 l D cA ad0 ad p e s m args below meth c C hA0 H locs ls hz hP hD hS hl
theorem sp_bback {mc2 ms2 : Nat} {h0 : Nat} {D : va_G} {cA : Nat → ClassId} {ad0 ad : Nat → Nat} {p : Program} {l : Launch} {e : Env} {s : State} {m : MethodId} {args : Array Value} {below : List Frame} {meth : Method} {c : Code} {H : Heap} {locs : List Loc} {ls : Array Slot} {stv : List Value} {a : Array Value} (C : sp_Cb h0 D cA M p s m args meth c) (hA0 : ∀ o, o < nn → ad o = ad0 o) (hnn : nn ≤ n0) (hS : va_S (fun q => h0 ≤ q) s.heap H locs) (hl : lv_has ls M.2.2.1 (sp_lv ad 0 L)) (hL : L.all (sp_lr n0) = true) (hst : st.all (fun v => sp_lr n0 (some v)) = true)
    (hr : va_Run p l e (sp_rb (d + 1) mc ms) s m args below meth c H locs x0 y0 mc2 ms2 (F0 m pc ls stv) (st.map (sp_cv ad)) (sp_Qb D cA ad n0 h0 (fun n2 g2 f2 => sp_BW M nn (d + 1) mc ms (pc + 3) L st (x0 + mc2) (y0 + ms2) n2 g2 f2 Q) a) (fun q => h0 ≤ q)) : W p l e (sp_rb (d + 1) mc ms) s m args below meth c H locs x0 y0 (MQ below (sp_Qb D cA ad0 nn h0 Q) args s mc ms (fun q => h0 ≤ q)) (F0 m pc ls stv) := by
  intro T hT X
  obtain ⟨v, st₀, t, T', L2, h0', X', hL2, e1, e2, ⟨⟨ad2, n2, g2, f2, hv, ha, hz2, hk, hP2, hD2⟩, hzz, hkk⟩, sg⟩ := hr T hT X
  cases hv
  rw [h0'] at hzz hkk
  have hS2 : va_S (fun q => h0 ≤ q) s.heap T'.heap (locs ++ L2) := by
    refine ⟨Nat.le_trans hS.1 (by rw [e1]; exact hzz), fun q h1 h2 => ?_, fun q hq => ?_⟩
    · rw [e1, hkk q (Nat.lt_of_lt_of_le h1 hS.1) h2]
      exact hS.2.1 q h1 h2
    · rcases List.mem_append.mp hq with h | h
      · exact hS.2.2 q h
      · exact hL2 q h
  have K := hk h0 l D cA ad0 ad2 p e s m args below meth c C (fun o ho => (ha o (by omega)).trans (hA0 o ho)) T'.heap (locs ++ L2) ls hz2 (by rw [e1]; exact hP2) hD2 hS2 (by rw [sp_lr_lv ha hL]; exact hl)
  rw [sp_lr_st ha hst] at K
  obtain ⟨t2, a1, b1⟩ := K T' rfl X'
  exact ⟨t2, sg t2 a1, b1⟩
theorem sp_bpre {h0 : Nat} {D : va_G} {cA : Nat → ClassId} {ad : Nat → Nat} {p : Program} {s U : State} {m : MethodId} {args : Array Value} {meth : Method} {c : Code} {H : Heap} {locs : List Loc} (C : sp_Cb h0 D cA M p s m args meth c) (hz : okF f n0) (hP : va_P D sp_cl (sp_B ad cA g f n0) H) (hD : va_D (fun q => h0 ≤ q) (sp_B ad cA g f n0)) (hS : va_S (fun q => h0 ≤ q) s.heap H locs) (hU : U.heap = H) (hW : s.WarmedH U.vm) : sp_BWd h0 D cA ad n0 g f U :=
  ⟨hz, by rw [hU]; exact Nat.le_trans C.2.2.2.2.2.2.2.2.2.1 hS.1, by rw [hU]; exact hP, va_K.moved hW.alike C.2.2.2.2.2.2.2.1, hD, sp_Nst.warm hW C.2.2.2.2.2.2.2.2.1, va_AO.moved hW.alike C.2.2.2.2.2.2.2.2.2.2.2⟩
theorem sp_bbl {h0 : Nat} {D : va_G} {cA : Nat → ClassId} {ad : Nat → Nat} {as : List Value} : FrameBlind (va_Pc as (sp_BWd h0 D cA ad n0 g f)) := by
  intro a U gg mk q
  obtain ⟨q0, q1, q2, qP, qK, qD, qN, qA⟩ := q
  exact ⟨q0, q1, q2, qP, va_K.moved (u := U) (U := U.calling gg mk a) (Vm.Alike.refl U.vm) qK, qD, sp_Nst.same (s := U) (U := U.calling gg mk a) rfl qN, va_AO.moved (u := U) (U := U.calling gg mk a) (Vm.Alike.refl U.vm) qA⟩
theorem bw_I {M2 : sp_M} {o ix mc2 ms2 : Nat} (hd : decode M.2.1 pc = .ok (.invokespecial ix, 3)) (hok : sp_okI M2) (hw : Cond.methodLink M.1.cls ix M2.1 ∈ sp_T) (hc : (st.map (fun v => if sp_c1 v = true then 1 else 2)).sum ≤ 8) (hnn : nn ≤ n0) (hL : L.all (sp_lr n0) = true) (hst : st.all (fun v => sp_lr n0 (some v)) = true) (hx : x0 + mc2 ≤ mc) (hy : y0 + ms2 ≤ ms)
    (k : sp_BMet d mc2 ms2 M2 o n0 g f (fun n2 g2 f2 => sp_BW M nn (d + 1) mc ms (pc + 3) L st (x0 + mc2) (y0 + ms2) n2 g2 f2 Q)) : sp_BW M nn (d + 1) mc ms pc L (v_r o :: st) x0 y0 n0 g f Q := by
  intro h0 l D cA ad0 ad p e s m args below meth c C hA0 H locs ls hz hP hD hS hl
  obtain ⟨o1, o2, o3, o4, o5, o6, o7, o8⟩ := hok
  have hts := C.2.2.2.2.2.2.1
  have cb := callB_of (R := sp_rb (d + 1) mc ms) (rm := sp_rb d mc2 ms2) (mc := mc2) (ms := ms2) 0 hts (sp_good (M := M) (M2 := M2) (by rw [o8]; exact o1)) rfl rfl rfl (hts _ (List.mem_cons_of_mem _ o2)) (hts _ (List.mem_cons_of_mem _ hw)) ⟨o4.1, o4.2, o5⟩ (sp_room o6)
  refine sp_bback C hA0 hnn hS hl hL hst (va_runI (b := ad o) (As := []) ⟨C.1, C.2.1, C.2.2.1, C.2.2.2.2.2.1, hts⟩ (k h0 l D cA ad) ⟨by rw [o8] at cb; exact cb, o7, hts _ (List.mem_cons_of_mem _ o3)⟩ ⟨sp_bbl, fun U hU hW => ⟨rfl, sp_bpre C hz hP hD hS hU hW⟩⟩ rfl rfl hl.1 rfl (lv_room (sp_cat hc)) hd ⟨hx, hy⟩)
theorem bw_IN {M2 : sp_M} {o ix mc2 ms2 : Nat} {host : String} (hd : decode M.2.1 pc = .ok (.invokespecial ix, 3)) (hok : sp_okI M2) (hw : Cond.methodLinkNest M.1.cls ix M2.1 host ∈ lw_tbl) (hc : (st.map (fun v => if sp_c1 v = true then 1 else 2)).sum ≤ 8) (hnn : nn ≤ n0) (hL : L.all (sp_lr n0) = true) (hst : st.all (fun v => sp_lr n0 (some v)) = true) (hx : x0 + mc2 ≤ mc) (hy : y0 + ms2 ≤ ms)
    (k : sp_BMet d mc2 ms2 M2 o n0 g f (fun n2 g2 f2 => sp_BW M nn (d + 1) mc ms (pc + 3) L st (x0 + mc2) (y0 + ms2) n2 g2 f2 Q)) : sp_BW M nn (d + 1) mc ms pc L (v_r o :: st) x0 y0 n0 g f Q := by
  intro h0 l D cA ad0 ad p e s m args below meth c C hA0 H locs ls hz hP hD hS hl
  obtain ⟨o1, o2, o3, o4, o5, o6, o7, o8⟩ := hok
  have hts := C.2.2.2.2.2.2.1
  have cb := va_cnB (R := sp_rb (d + 1) mc ms) (rm := sp_rb d mc2 ms2) (mc := mc2) (ms := ms2) 0 hts (sp_good (M := M) (M2 := M2) (by rw [o8]; exact o1)) rfl rfl rfl (C.2.2.2.2.2.2.2.2.1 _ hw rfl) (hts _ (List.mem_cons_of_mem _ o2)) ⟨o4.1, o4.2, o5⟩ (sp_room o6)
  refine sp_bback C hA0 hnn hS hl hL hst (va_runIN (b := ad o) (As := []) ⟨C.1, C.2.1, C.2.2.1, C.2.2.2.2.2.1, hts⟩ (k h0 l D cA ad) ⟨by rw [o8] at cb; exact cb, o7, hts _ (List.mem_cons_of_mem _ o3)⟩ ⟨sp_bbl, fun U hU hW => ⟨rfl, sp_bpre C hz hP hD hS hU hW⟩⟩ rfl rfl hl.1 rfl (lv_room (sp_cat hc)) hd ⟨hx, hy⟩)
end BUILD5
