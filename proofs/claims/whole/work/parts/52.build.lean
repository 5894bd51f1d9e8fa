/-! BUILDING: the first n objects stand, ad grows -/
abbrev sp_Fl : Type := Nat → Nat → Bool
def sp_fb (ad : Nat → Nat) (g : sp_G) (f : sp_Fl) (o k : Nat) (x : Option Nat) : Value := match x with
  | none => .int (Int32.ofInt (g o k))
  | some r => if f o k then .ref (ad r) else .null
def sp_cb (ad : Nat → Nat) (cA : Nat → ClassId) (g : sp_G) (f : sp_Fl) (o : Nat) (s : sp_S) : va_E := match s with
  | .inl (ci, fl) => .inr (ci, fl.mapIdx (sp_fb ad g f o))
  | .inr (k, n, none) => .inl (cA k, n, .inl (fun j => Int32.ofInt (g o j)))
  | .inr (k, n, some h) => .inl (cA k, n, .inr (.inr (.inr (.inr (fun j => if f o j then some (ad (h j)) else none)))))
def sp_B (ad : Nat → Nat) (cA : Nat → ClassId) (g : sp_G) (f : sp_Fl) (n : Nat) : va_W := (sp_sh.take n).mapIdx (fun o s => (ad o, sp_cb ad cA g f o s))
theorem sp_Bg {ad : Nat → Nat} {cA : Nat → ClassId} (g : sp_G) (f : sp_Fl) {n o : Nat} {s : sp_S} (h : sp_sh[o]? = some s) (ho : o < n) : (sp_B ad cA g f n)[o]? = some (ad o, sp_cb ad cA g f o s) := by
  simp [sp_B, List.getElem?_mapIdx, List.getElem?_take, h, ho]
theorem sp_Bn {ad : Nat → Nat} {cA : Nat → ClassId} {g : sp_G} {f : sp_Fl} {n : Nat} {s : sp_S} (h : sp_sh[n]? = some s) : sp_B ad cA g f (n + 1) = sp_B ad cA g f n ++ [(ad n, sp_cb ad cA g f n s)] := by
  have hl : n < sp_sh.length := (List.getElem?_eq_some_iff.mp h).1
  have hlen : (sp_sh.take n).length = n := by rw [List.length_take]; omega
  unfold sp_B
  rw [List.take_add_one, h]
  rw [List.mapIdx_append, hlen]
  simp
def sp_rb (d mc ms : Nat) : Room := { frames := d, cells := mc, slots := ms, locals := 38 * d }
abbrev sp_BQ : Type := Nat → sp_G → sp_Fl → Prop
/-- whither a slot points -/
def sp_tg (o k : Nat) : Nat := match sp_sh[o]? with
  | some (.inl (_, fl)) => (fl.getD k none).getD 0
  | some (.inr (_, _, some h)) => h k
  | _ => 0
def okF (f : sp_Fl) (n : Nat) : Prop := ∀ o k, f o k = true → sp_tg o k < n
def sp_Cb (h0 : Nat) (D : va_G) (cA : Nat → ClassId) (M : sp_M) (p : Program) (s : State) (m : MethodId) (args : Array Value) (meth : Method) (c : Code) : Prop :=
  p.tables.exec = Jvm.exec ∧ c.code = M.2.1 ∧ c.maxLocals = M.2.2.1 ∧ meth.sig.returnType = M.2.2.2 ∧ meth.locks = false ∧ s.vm.findClass M.1.cls = some m.cls ∧ (∀ w ∈ sp_ws M, w.before args s = true) ∧ va_K D sp_cl (sp_ty cA) s ∧ sp_Nst s ∧ h0 ≤ s.heap.size ∧ meth.name = "<init>" ∧ va_AO "StylePapers$Town" s
def sp_Qb (D : va_G) (cA : Nat → ClassId) (ad : Nat → Nat) (nn h0 : Nat) (Q : sp_BQ) : Array Value → State → Outcome → State → Prop := fun _ st oc t => (∃ (ad2 : Nat → Nat) (n2 : Nat) (g2 : sp_G) (f2 : sp_Fl), oc = .returned none ∧ (∀ o, o < nn → ad2 o = ad o) ∧ okF f2 n2 ∧ Q n2 g2 f2 ∧ va_P D sp_cl (sp_B ad2 cA g2 f2 n2) t.heap ∧ va_D (fun q => h0 ≤ q) (sp_B ad2 cA g2 f2 n2)) ∧ va_F (fun q => h0 ≤ q) st t
def sp_BW (M : sp_M) (nn d mc ms pc : Nat) (L : List (Option sp_V)) (st : List sp_V) (x y n : Nat) (g : sp_G) (f : sp_Fl) (Q : sp_BQ) : Prop :=
  ∀ (h0 : Nat) (l : Launch) (D : va_G) (cA : Nat → ClassId) (ad0 ad : Nat → Nat) (p : Program) (e : Env) (s : State) (m : MethodId) (args : Array Value) (below : List Frame) (meth : Method) (c : Code), sp_Cb h0 D cA M p s m args meth c → (∀ o, o < nn → ad o = ad0 o) →
  ∀ (H : Heap) (locs : List Loc) (ls : Array Slot), okF f n → va_P D sp_cl (sp_B ad cA g f n) H → va_D (fun q => h0 ≤ q) (sp_B ad cA g f n) → va_S (fun q => h0 ≤ q) s.heap H locs → lv_has ls M.2.2.1 (sp_lv ad 0 L) →
  W p l e (sp_rb d mc ms) s m args below meth c H locs x y (MQ below (sp_Qb D cA ad0 nn h0 Q) args s mc ms (fun q => h0 ≤ q)) (F0 m pc ls (st.map (sp_cv ad)))
def sp_BWd (h0 : Nat) (D : va_G) (cA : Nat → ClassId) (ad : Nat → Nat) (n : Nat) (g : sp_G) (f : sp_Fl) (U : State) : Prop := okF f n ∧ h0 ≤ U.heap.size ∧ va_P D sp_cl (sp_B ad cA g f n) U.heap ∧ va_K D sp_cl (sp_ty cA) U ∧ va_D (fun q => h0 ≤ q) (sp_B ad cA g f n) ∧ sp_Nst U ∧ va_AO "StylePapers$Town" U
def sp_BMet (d mc ms : Nat) (M : sp_M) (o n : Nat) (g : sp_G) (f : sp_Fl) (Q : sp_BQ) : Prop := ∀ (h0 : Nat) (l : Launch) (D : va_G) (cA : Nat → ClassId) (ad : Nat → Nat), Met l M.1 (sp_ws M) (sp_rb d mc ms) (va_Pc [.ref (ad o)] (sp_BWd h0 D cA ad n g f)) (sp_Qb D cA ad n h0 Q) mc ms (fun q => h0 ≤ q)
section BUILD
variable {M : sp_M} {nn d mc ms pc : Nat} {L L2 : List (Option sp_V)} {st : List sp_V} {x0 y0 n0 : Nat} {g : sp_G} {f : sp_Fl} {Q : sp_BQ}
theorem bw_iconst {n : Int} (hd : decode M.2.1 pc = .ok (.iconst n, 1)) (k : sp_BW M nn d mc ms (pc + 1) L (v_i n :: st) x0 y0 n0 g f Q) : sp_BW M nn d mc ms pc L (st) x0 y0 n0 g f Q := by
  intro h0 l D cA ad0 ad p e s m args below meth c C hA0 H locs ls hz hP hD hS hl
  have K := k h0 l D cA ad0 ad p e s m args below meth c C hA0 H locs ls hz hP hD hS hl
  refine lv_iconst (v := Int32.ofInt n) C.1 C.2.1 hd rfl ?_
  exact K
theorem bw_bipush {n : Int} (hd : decode M.2.1 pc = .ok (.bipush n, 2)) (hn : (Int8.ofInt n).toInt32 = Int32.ofInt n) (k : sp_BW M nn d mc ms (pc + 2) L (v_i n :: st) x0 y0 n0 g f Q) : sp_BW M nn d mc ms pc L (st) x0 y0 n0 g f Q := by
  intro h0 l D cA ad0 ad p e s m args below meth c C hA0 H locs ls hz hP hD hS hl
  have K := k h0 l D cA ad0 ad p e s m args below meth c C hA0 H locs ls hz hP hD hS hl
  refine lv_bipush (v := Int32.ofInt n) C.1 C.2.1 hd hn ?_
  exact K
theorem bw_sipush {n : Int} (hd : decode M.2.1 pc = .ok (.sipush n, 3)) (hn : (Int16.ofInt n).toInt32 = Int32.ofInt n) (k : sp_BW M nn d mc ms (pc + 3) L (v_i n :: st) x0 y0 n0 g f Q) : sp_BW M nn d mc ms pc L (st) x0 y0 n0 g f Q := by
  intro h0 l D cA ad0 ad p e s m args below meth c C hA0 H locs ls hz hP hD hS hl
  have K := k h0 l D cA ad0 ad p e s m args below meth c C hA0 H locs ls hz hP hD hS hl
  refine lv_sipush (v := Int32.ofInt n) C.1 C.2.1 hd hn ?_
  exact K
theorem bw_iload_n {j : Fin 4} {x : Int} (hd : decode M.2.1 pc = .ok (.iload_n j, 1)) (h : L[(j : Nat)]? = some (some (v_i x))) (k : sp_BW M nn d mc ms (pc + 1) L (v_i x :: st) x0 y0 n0 g f Q) : sp_BW M nn d mc ms pc L (st) x0 y0 n0 g f Q := by
  intro h0 l D cA ad0 ad p e s m args below meth c C hA0 H locs ls hz hP hD hS hl
  have K := k h0 l D cA ad0 ad p e s m args below meth c C hA0 H locs ls hz hP hD hS hl
  refine lv_iload_n C.1 C.2.1 hd rfl (sp_ld hl h) ?_
  exact K
theorem bw_aload_n {j : Fin 4} {x : Nat} (hd : decode M.2.1 pc = .ok (.aload_n j, 1)) (h : L[(j : Nat)]? = some (some (v_r x))) (k : sp_BW M nn d mc ms (pc + 1) L (v_r x :: st) x0 y0 n0 g f Q) : sp_BW M nn d mc ms pc L (st) x0 y0 n0 g f Q := by
  intro h0 l D cA ad0 ad p e s m args below meth c C hA0 H locs ls hz hP hD hS hl
  have K := k h0 l D cA ad0 ad p e s m args below meth c C hA0 H locs ls hz hP hD hS hl
  refine lv_aload_n C.1 C.2.1 hd rfl (sp_ld hl h) ?_
  exact K
theorem bw_istore_n {j : Fin 4} {x : Int} (hd : decode M.2.1 pc = .ok (.istore_n j, 1)) (hn : (j : Nat) < M.2.2.1) (hp : sp_pl L (j : Nat) = true) (hL : L.set (j : Nat) (some (v_i x)) = L2) (k : sp_BW M nn d mc ms (pc + 1) L2 st x0 y0 n0 g f Q) : sp_BW M nn d mc ms pc L (v_i x :: st) x0 y0 n0 g f Q := by
  intro h0 l D cA ad0 ad p e s m args below meth c C hA0 H locs ls hz hP hD hS hl
  subst hL
  exact lv_istore_n C.1 C.2.1 hd rfl hl hn rfl (fun ls2 h2 => k h0 l D cA ad0 ad p e s m args below meth c C hA0 H locs ls2 hz hP hD hS (sp_sto1 (v := v_i x) hp h2))
theorem bw_iinc {i : Nat} {n x : Int} (hd : decode M.2.1 pc = .ok (.iinc i n, 3)) (h : L[i]? = some (some (v_i x))) (hn : i < M.2.2.1) (hp : sp_pl L i = true) (hL : L.set i (some (v_i (x + n))) = L2) (k : sp_BW M nn d mc ms (pc + 3) L2 st x0 y0 n0 g f Q) : sp_BW M nn d mc ms pc L st x0 y0 n0 g f Q := by
  intro h0 l D cA ad0 ad p e s m args below meth c C hA0 H locs ls hz hP hD hS hl
  subst hL
  obtain ⟨k0, hk0⟩ := List.getElem?_of_mem (sp_lv_mem.mpr ⟨i, v_i x, h, rfl⟩ : ((0 + i, sp_cv ad (v_i x)) : Nat × Value) ∈ sp_lv ad 0 L)
  rw [Nat.zero_add] at hk0
  exact lv_iinc (k := k0) (v := Int32.ofInt (x + n)) C.1 C.2.1 hd hl hk0 (Int32.ofInt_add x n).symm hn rfl (fun ls2 h2 => k h0 l D cA ad0 ad p e s m args below meth c C hA0 H locs ls2 hz hP hD hS (sp_sto1 (v := v_i (x + n)) hp h2))
theorem bw_dup {v : sp_V} (hd : decode M.2.1 pc = .ok (.dup, 1)) (hc : sp_c1 v = true) (k : sp_BW M nn d mc ms (pc + 1) L (v :: v :: st) x0 y0 n0 g f Q) : sp_BW M nn d mc ms pc L (v :: st) x0 y0 n0 g f Q := by
  intro h0 l D cA ad0 ad p e s m args below meth c C hA0 H locs ls hz hP hD hS hl
  have K := k h0 l D cA ad0 ad p e s m args below meth c C hA0 H locs ls hz hP hD hS hl
  refine lv_dup C.1 C.2.1 hd (sp_c1_ok hc) ?_
  exact K
theorem bw_goto {off : Int} {tg : Nat} (hd : decode M.2.1 pc = .ok (.goto off, 3)) (ht : (pc : Int) + off = (tg : Int)) (k : sp_BW M nn d mc ms tg L st x0 y0 n0 g f Q) : sp_BW M nn d mc ms pc L st x0 y0 n0 g f Q := by
  intro h0 l D cA ad0 ad p e s m args below meth c C hA0 H locs ls hz hP hD hS hl
  exact lv_goto C.1 C.2.1 hd ht (k h0 l D cA ad0 ad p e s m args below meth c C hA0 H locs ls hz hP hD hS hl)
theorem bw_icmp_ge {x y : Int} {off : Int} {tg : Nat} (hd : decode M.2.1 pc = .ok (.if_icmp .ge off, 3)) (ht : (pc : Int) + off = (tg : Int)) (hr : (-2147483648 ≤ x ∧ x < 2147483648) ∧ (-2147483648 ≤ y ∧ y < 2147483648)) (kt : y ≤ x → sp_BW M nn d mc ms tg L st x0 y0 n0 g f Q) (kf : ¬ (y ≤ x) → sp_BW M nn d mc ms (pc + 3) L st x0 y0 n0 g f Q) : sp_BW M nn d mc ms pc L (v_i y :: v_i x :: st) x0 y0 n0 g f Q := by
  intro h0 l D cA ad0 ad p e s m args below meth c C hA0 H locs ls hz hP hD hS hl
  exact lv_icmp_ge C.1 C.2.1 hd ht (fun h => kt ((sp_le (x := y) (y := x) ⟨hr.2, hr.1⟩).mp h) h0 l D cA ad0 ad p e s m args below meth c C hA0 H locs ls hz hP hD hS hl) (fun h => kf ((fun q => h ((sp_le (x := y) (y := x) ⟨hr.2, hr.1⟩).mpr q))) h0 l D cA ad0 ad p e s m args below meth c C hA0 H locs ls hz hP hD hS hl)
end BUILD
