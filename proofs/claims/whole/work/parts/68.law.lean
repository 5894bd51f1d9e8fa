/-! THE CLAIM OUT OF ONE WALK OF THE LAW'S BODY. Your part is whole_start (and what it stands on); all else here is the same for every law, but numbers. -/
def R_law : String := "StylePapersLaw"
def lw_P (b : Addr) (xs : List Int32) (args : Array Value) (s : State) : Prop := args = #[.ref b] ∧ s.IntsAt b xs ∧ xs.length ≤ 2560 ∧ (Jvm.Cond.and given_1 narrow_1).before args s = true
def lw_Q (_ : Array Value) (s : State) (o : Outcome) (t : State) : Prop := o = .returned (some (.int 1)) ∧ Framed s o t [] 600000 7302250
def lw_Z (below : List Frame) (a : Array Value) (s : State) : State → Prop := fun t => ∃ o, t.status = .running ∧ Ended t below o ∧ lw_Q a s o t
/-- the law's own end, with 1 on the stack, nothing written that was there before, its room as the claim has it -/
theorem lw_ret {p : Program} {l : Launch} {e : Env} {s : State} {m : MethodId} {below : List Frame} {meth : Method} {c : Code} {b : Nat} (hx : p.tables.exec = Jvm.exec) (hb : c.code = code) (hr : meth.sig.returnType = ret) (hlocks : meth.locks = false) {pc : Nat} {H : Heap} {ls : Array Slot} (hdg : decode code pc = .ok (.ireturn, 1)) : W p l e room_1 s m #[Value.ref b] below meth c H [] 600000 7302250 (lw_Z below #[Value.ref b] s) (F0 m pc ls [.int 1]) := by
  intro T hT X
  obtain ⟨fs, hret, hrun, hended, hW, hframe⟩ := X.leave (v := some (.int 1)) (hlocks := hlocks) (fun h => by rw [hr] at h; cases h)
  have hmeth' : T.vm.method? m = some meth := X.method'
  refine ⟨T.setFrames fs, ?_, .returned (some (.int 1)), hrun, hended, rfl, ⟨_, rfl⟩, hW, hframe⟩
  jvm_step X.here [X.here.top, hx, hb, hdg, hmeth', hr, ret, narrow_b1]
  (try refine ⟨rfl, ?_⟩); (try refine ⟨rfl, ?_⟩)
  first | (intro acts; rw [hret _ acts rfl rfl rfl]) | rw [hret _ _ rfl rfl rfl]
  exact Steps.refl _
/-- what holds at the law's entry: the machine, the code, the tables' words (any of lw_tbl by 'hts w (by decide +kernel)'), the script of L ints xs at the cell b, what the Statement gives of the start (any of its parts by flat_of_before) -/
def lw_At (p : Program) (s : State) (m : MethodId) (meth : Method) (c : Code) (b L : Nat) (xs : Nat → Int32) : Prop :=
  p.tables.exec = Jvm.exec ∧ c.code = code ∧ meth.sig.returnType = ret ∧ c.maxLocals = 4 ∧ s.vm.findClass R_law = some m.cls ∧ (∀ w ∈ lw_tbl, w.before #[Value.ref b] s = true) ∧ va_X b L xs s s.heap ∧ b < s.heap.size ∧ meth.locks = false ∧ (Jvm.Cond.and given_1 narrow_1).before #[Value.ref b] s = true
theorem lw_T {b : Nat} {s : State} (hts : ∀ w ∈ lw_tbl, w.before #[Value.ref b] s = true) : ∀ w ∈ sp_T, w.before #[Value.ref b] s = true := fun w hw => hts w (List.mem_filter.mp hw).1
theorem arr_K {s : State} {args : Array Value} {ty : FieldType} (h : (Cond.arrayClass ty).before args s = true) (hRA : ∀ (U : State) (c1 : ClassId), U.vm.findClass ("[" ++ ty.toString) = some c1 → va_RA U c1 ty) : ∃ c1 : ClassId, ArrOfT s c1 ty ∧ va_RA s c1 ty := by
  obtain ⟨c1, k, comp, h1, h2, h3⟩ := Cond.arrayClass_spec h
  exact ⟨c1, fun N z => ⟨(fun k h => by cases h), k, h2, comp, h3⟩, hRA _ _ h1⟩
theorem lw_K {b : Nat} {s : State} (hts : ∀ w ∈ lw_tbl, w.before #[Value.ref b] s = true) (hAO : va_AO "StylePapers$Town" s) : ∃ (D : va_G) (cA : Nat → ClassId), va_K D sp_cl (sp_ty cA) s := by
  have hT := lw_T hts
  obtain ⟨c0, j0, k0⟩ := u_known hT sp_inX0 (hT _ istX0)
  obtain ⟨c1, j1, k1⟩ := u_known hT sp_inX1 (hT _ istX1)
  obtain ⟨c2, j2, k2⟩ := u_known hT sp_inX2 (hT _ istX2)
  obtain ⟨c3, j3, k3⟩ := u_known hT sp_inX3 (hT _ istX3)
  obtain ⟨c4, j4, k4⟩ := u_known hT sp_inX4 (hT _ istX4)
  obtain ⟨c5, j5, k5⟩ := u_known hT sp_inX5 (hT _ istX5)
  obtain ⟨c6, j6, k6⟩ := u_known hT sp_inX6 (hT _ istX6)
  obtain ⟨a0, b0, d0⟩ := arr_K (hT _ ac_int) (fun _ _ h => h)
  obtain ⟨a1, b1, d1⟩ := arr_K (hT _ ac_byte) (fun _ _ h => h)
  obtain ⟨a2, b2, d2⟩ := arr_K (hT _ ac_boolean) (fun _ _ h => h)
  obtain ⟨a3, b3, d3⟩ := arr_K (hT _ ac_char) (fun _ _ h => h)
  obtain ⟨comp, a4, kA, hcomp, hidx, hkA, hkindA, hnameA⟩ := Cond.arrayOver_spec hAO
  have b4 : ArrOfT s a4 (.object "StylePapers$Town") := fun N z => ⟨(fun k h => by cases h), kA, hkA, comp, hkindA⟩
  have d4 : va_RA s a4 (.object "StylePapers$Town") := ⟨kA, comp, hkA, hkindA, hcomp, hnameA⟩
  refine ⟨(fun c => match c with | 0 => c0 | 1 => c1 | 2 => c2 | 3 => c3 | 4 => c4 | 5 => c5 | _ => c6, fun c => match c with | 0 => j0 | 1 => j1 | 2 => j2 | 3 => j3 | 4 => j4 | 5 => j5 | _ => j6), fun k => match k with | 0 => a0 | 1 => a1 | 2 => a2 | 3 => a3 | _ => a4, fun c q hq => ?_, fun k q hq => ?_⟩
  · match c, hq with
    | 0, hq => cases hq; exact k0
    | 1, hq => cases hq; exact k1
    | 2, hq => cases hq; exact k2
    | 3, hq => cases hq; exact k3
    | 4, hq => cases hq; exact k4
    | 5, hq => cases hq; exact k5
    | 6, hq => cases hq; exact k6
    | n + 7, hq => cases hq
  · match k, hq with
    | 0, hq => cases hq; exact ⟨b0, d0⟩
    | 1, hq => cases hq; exact ⟨b1, d1⟩
    | 2, hq => cases hq; exact ⟨b2, d2⟩
    | 3, hq => cases hq; exact ⟨b3, d3⟩
    | 4, hq => cases hq; exact ⟨b4, d4⟩
    | n + 5, hq => cases hq
theorem lw_N {b : Nat} {s : State} (hts : ∀ w ∈ lw_tbl, w.before #[Value.ref b] s = true) : sp_Nst s := by
  intro w hw hn
  cases w <;> first | exact va_Nw.of rfl (hts _ hw) | (cases hn)
