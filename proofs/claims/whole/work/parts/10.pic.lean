/-! THE PICTURE: every int of the two systems is a place (object, slot) of one function; references never change behind the constructors -/
abbrev sp_V : Type := Int ⊕ (Int ⊕ Nat)
abbrev sp_G : Type := Nat → Int → Int
abbrev sp_P : Type := Option sp_V → sp_G → Prop
abbrev sp_M : Type := MethodName × ByteArray × Nat × Option FieldType
abbrev v_i (x : Int) : sp_V := .inl x
abbrev v_l (x : Int) : sp_V := .inr (.inl x)
abbrev v_r (k : Nat) : sp_V := .inr (.inr k)
def sp_cv (ad : Nat → Nat) : sp_V → Value
  | .inl x => .int (Int32.ofInt x)
  | .inr (.inl x) => .long (Int64.ofInt x)
  | .inr (.inr k) => .ref (ad k)
def sp_up (g : sp_G) (o : Nat) (i x : Int) : sp_G := fun p j => if p = o then (if j = i then x else g p j) else g p j
theorem sp_up_s (g : sp_G) (o : Nat) (i x : Int) : sp_up g o i x o i = x := by simp [sp_up]
theorem sp_up_o (g : sp_G) {o p : Nat} (i x j : Int) (h : p ≠ o) : sp_up g o i x p j = g p j := by simp [sp_up, h]
theorem sp_up_i (g : sp_G) (o p : Nat) {i j : Int} (x : Int) (h : j ≠ i) : sp_up g o i x p j = g p j := by simp [sp_up, h]
abbrev sp_S : Type := (Nat × List (Option Nat)) ⊕ (Nat × Nat × Option (Nat → Nat))
def sp_sh : List sp_S := [
  .inl (5, [some 1, some 5, some 39, some 45, some 49, none, none, none]),
  .inl (4, [some 2, some 3, some 4, none]),
  .inr (0, 24, none),
  .inr (0, 96, none),
  .inr (0, 24, none),
  .inl (1, [some 6, none, none]),
  .inr (4, 8, some (fun j => 7 + 4 * j)),
  .inl (4, [some 8, some 9, some 10, none]),
  .inr (0, 24, none),
  .inr (0, 96, none),
  .inr (0, 24, none),
  .inl (4, [some 12, some 13, some 14, none]),
  .inr (0, 24, none),
  .inr (0, 96, none),
  .inr (0, 24, none),
  .inl (4, [some 16, some 17, some 18, none]),
  .inr (0, 24, none),
  .inr (0, 96, none),
  .inr (0, 24, none),
  .inl (4, [some 20, some 21, some 22, none]),
  .inr (0, 24, none),
  .inr (0, 96, none),
  .inr (0, 24, none),
  .inl (4, [some 24, some 25, some 26, none]),
  .inr (0, 24, none),
  .inr (0, 96, none),
  .inr (0, 24, none),
  .inl (4, [some 28, some 29, some 30, none]),
  .inr (0, 24, none),
  .inr (0, 96, none),
  .inr (0, 24, none),
  .inl (4, [some 32, some 33, some 34, none]),
  .inr (0, 24, none),
  .inr (0, 96, none),
  .inr (0, 24, none),
  .inl (4, [some 36, some 37, some 38, none]),
  .inr (0, 24, none),
  .inr (0, 96, none),
  .inr (0, 24, none),
  .inl (3, [some 40, some 41, some 42, some 43, some 44, none]),
  .inr (0, 24, none),
  .inr (0, 24, none),
  .inr (0, 24, none),
  .inr (0, 24, none),
  .inr (2, 24, none),
  .inl (0, [none, none, none, some 46, some 47, some 48, none, none, none, none]),
  .inr (0, 12, none),
  .inr (0, 4, none),
  .inr (0, 4, none),
  .inl (2, [some 50, none, some 51, none, none, none, none]),
  .inr (1, 120, none),
  .inr (0, 150, none),
  .inl (6, [some 53, some 54, none, some 55, some 56, some 57, none, none, some 58, some 59, some 60, some 61, none, some 62, some 63, some 64, some 65, none, some 66, none]),
  .inr (0, 145, none),
  .inr (0, 1160, none),
  .inr (0, 3, none),
  .inr (0, 3, none),
  .inr (0, 120, none),
  .inr (0, 4, none),
  .inr (3, 24, none),
  .inr (0, 24, none),
  .inr (0, 24, none),
  .inr (0, 24, none),
  .inr (0, 24, none),
  .inr (0, 4, none),
  .inr (0, 4, none),
  .inr (0, 12, none)]
abbrev sp_cl : List vw_C := [(RX0, TX0, 10), (RX1, TX1, 3), (RX2, TX2, 7), (RX3, TX3, 6), (RX4, TX4, 4), (RX5, TX5, 8), (RX6, TX6, 20)]
abbrev sp_ty (cA : Nat → ClassId) : List (ClassId × FieldType) := [(cA 0, .int), (cA 1, .byte), (cA 2, .boolean), (cA 3, .char), (cA 4, .object "StylePapers$Town")]
def sp_fv (ad : Nat → Nat) (g : sp_G) (o : Nat) (k : Nat) (f : Option Nat) : Value := match f with
  | none => .int (Int32.ofInt (g o k))
  | some r => .ref (ad r)
def sp_ce (ad : Nat → Nat) (cA : Nat → ClassId) (g : sp_G) (o : Nat) (s : sp_S) : va_E := match s with
  | .inl (ci, fl) => .inr (ci, fl.mapIdx (sp_fv ad g o))
  | .inr (k, n, none) => .inl (cA k, n, .inl (fun j => Int32.ofInt (g o j)))
  | .inr (k, n, some f) => .inl (cA k, n, .inr (.inr (.inr (.inr (fun j => some (ad (f j)))))))
def sp_W (ad : Nat → Nat) (cA : Nat → ClassId) (g : sp_G) : va_W := sp_sh.mapIdx (fun o s => (ad o, sp_ce ad cA g o s))
theorem sp_Wg {ad : Nat → Nat} {cA : Nat → ClassId} (g : sp_G) {o : Nat} {s : sp_S} (h : sp_sh[o]? = some s) : (sp_W ad cA g)[o]? = some (ad o, sp_ce ad cA g o s) := by
  simp [sp_W, List.getElem?_mapIdx, h]
theorem sp_ce_o {ad : Nat → Nat} {cA : Nat → ClassId} {g : sp_G} {o p : Nat} {i x : Int} (s : sp_S) (h : p ≠ o) : sp_ce ad cA (sp_up g o i x) p s = sp_ce ad cA g p s := by
  have e : ∀ j, sp_up g o i x p j = g p j := fun j => sp_up_o g i x j h
  have e2 : sp_fv ad (sp_up g o i x) p = sp_fv ad g p := by
    funext k f
    cases f with
    | none => simp [sp_fv, e]
    | some r => rfl
  match s with
  | .inl (ci, fl) => simp [sp_ce, e2]
  | .inr (k, n, none) => simp [sp_ce, e]
  | .inr (k, n, some f) => rfl
theorem sp_Wset {ad : Nat → Nat} {cA : Nat → ClassId} {g : sp_G} {o : Nat} {i x : Int} {s : sp_S} (h : sp_sh[o]? = some s) : sp_W ad cA (sp_up g o i x) = (sp_W ad cA g).set o (ad o, sp_ce ad cA (sp_up g o i x) o s) := by
  apply List.ext_getElem?
  intro j
  by_cases hj : j = o
  · subst hj
    rw [sp_Wg _ h, List.getElem?_set_self]
    have := sp_Wg (ad := ad) (cA := cA) g h
    exact (List.getElem?_eq_some_iff.mp this).1
  · rw [List.getElem?_set_ne (fun e => hj e.symm)]
    simp only [sp_W, List.getElem?_mapIdx]
    cases hs : sp_sh[j]? with
    | none => simp
    | some t => simp [sp_ce_o t hj]
theorem sp_WsetF {ad : Nat → Nat} {cA : Nat → ClassId} {g : sp_G} {o k ci : Nat} {x : Int} {fl : List (Option Nat)} (h : sp_sh[o]? = some (.inl (ci, fl))) (hk : fl[k]? = some none) : (sp_W ad cA g).set o (ad o, .inr (ci, (fl.mapIdx (sp_fv ad g o)).set k (.int (Int32.ofInt x)))) = sp_W ad cA (sp_up g o k x) := by
  rw [sp_Wset h]
  congr 2
  simp only [sp_ce]
  congr 2
  apply List.ext_getElem?
  intro j
  by_cases hj : j = k
  · subst hj
    have hl := (List.getElem?_eq_some_iff.mp hk).1
    rw [List.getElem?_set_self (by simpa using hl)]
    simp [List.getElem?_mapIdx, hk, sp_fv, sp_up]
  · rw [List.getElem?_set_ne (fun e => hj e.symm)]
    simp only [List.getElem?_mapIdx]
    cases hs : fl[j]? with
    | none => simp
    | some t =>
      cases t with
      | none => simp only [Option.map_some, sp_fv, sp_up]; rw [if_pos trivial, if_neg (by omega)]
      | some r => simp [sp_fv]
theorem sp_WsetA {ad : Nat → Nat} {cA : Nat → ClassId} {g : sp_G} {o ki n : Nat} {i x : Int} (h : sp_sh[o]? = some (.inr (ki, n, none))) (hi : 0 ≤ i) : (sp_W ad cA g).set o (ad o, .inl (cA ki, n, .inl (upd (fun j => Int32.ofInt (g o j)) i.toNat (Int32.ofInt x)))) = sp_W ad cA (sp_up g o i x) := by
  rw [sp_Wset h]
  congr 2
  simp only [sp_ce]
  congr 3
  apply congrArg
  funext j
  by_cases hj : j = i.toNat
  · subst hj
    simp [upd, sp_up, Int.toNat_of_nonneg hi]
  · simp only [upd, if_neg hj, sp_up]
    rw [if_pos trivial, if_neg (by omega)]
/-- the cells that a method may change -/
def sp_A (ad : Nat → Nat) : Nat → Prop := fun q => ∃ o : Nat, o < 67 ∧ q = ad o
theorem sp_D {ad : Nat → Nat} {cA : Nat → ClassId} {A : Nat → Prop} {g : sp_G} (g2 : sp_G) (h : va_D A (sp_W ad cA g)) : va_D A (sp_W ad cA g2) := by
  have key : ∀ (i : Nat) (p : Nat × va_E), (sp_W ad cA g2)[i]? = some p → ∃ e, (sp_W ad cA g)[i]? = some (p.1, e) := by
    intro i p hp
    simp only [sp_W, List.getElem?_mapIdx] at hp ⊢
    cases hs : sp_sh[i]? with
    | none => simp [hs] at hp
    | some t => simp [hs] at hp; subst hp; exact ⟨_, rfl⟩
  refine ⟨fun i j p q hp hq e => ?_, fun k q hq => ?_⟩
  · obtain ⟨e1, h1⟩ := key i p hp
    obtain ⟨e2, h2⟩ := key j q hq
    exact h.1 i j _ _ h1 h2 e
  · obtain ⟨e1, h1⟩ := key k q hq
    exact h.2 k (q.1, e1) h1
/-! words -/
def sp_T : List Cond := lw_tbl.filter goodWord
def sp_ws (M : sp_M) : List Cond := .code M.1 M.2.1 M.2.2.1 M.2.2.2 :: sp_T
theorem sp_inT {w : Cond} (h : w ∈ lw_tbl) (hg : goodWord w = true) : w ∈ sp_T := List.mem_filter.mpr ⟨h, hg⟩
def sp_isN : Cond → Bool
  | .fieldLinkNest .. => true
  | .methodLinkNest .. => true
  | _ => false
def sp_Nst (U : State) : Prop := ∀ w ∈ lw_tbl, sp_isN w = true → va_Nw w U
theorem sp_Nst.warm {s U : State} (hW : s.WarmedH U.vm) (h : sp_Nst s) : sp_Nst U := by
  intro w hw hn
  have h1 := h w hw hn
  cases w <;> first | exact va_Nw.warmF hW h1 | exact va_Nw.warmM hW h1 | (cases hn)
theorem sp_Nst.same {s U : State} (hv : s.vm = U.vm) (h : sp_Nst s) : sp_Nst U := by
  intro w hw hn
  have h1 := h w hw hn
  cases w <;> first | exact va_Nw.same rfl hv h1 | (cases hn)
/-! what stands outside: static rows of numbers, the texts -/
def sp_num (k : Nat) : List Int := match k with
  | 0 => [1, 1, 4, 3, 2]
  | 1 => [3, 0, 0, 0, 3, 0, 0, 0, 3, 5, 23, 23, 3, 5, 8, 0, 23, 99, 0, 0]
  | _ => [0, 0, 0, 0, 0, 0, 0, 0, 0, 0, 0, 0, 0, 0, 1, 0, 0, 0, 0, 0]
def sp_nm (k : Nat) : String := match k with
  | 0 => "NUMBERS"
  | 1 => "GREATEST"
  | _ => "LEAST"
def sp_sx (i : Nat) : Nat := match i with
  | 0 => 87
  | 1 => 89
  | 2 => 91
  | 3 => 93
  | _ => 95
def sp_tx (i : Nat) : String := match i with
  | 0 => "on"
  | 1 => "off"
  | 2 => "put"
  | 3 => "names"
  | _ => "voters"
def sp_byt : List (List Int32) := [[111, 110], [111, 102, 102], [112, 117, 116], [110, 97, 109, 101, 115], [118, 111, 116, 101, 114, 115]]
def sp_len : List Nat := [2, 3, 3, 5, 6]
def sp_Ext (ad : Nat → Nat) (U : State) : Prop :=
  (∀ k : Nat, k < 3 → va_Z RX2 (sp_nm k) "[I" (.ref (ad (70 + k))) (sp_A ad) U U.heap ∧ va_T .int (ad (70 + k)) (sp_num k).length (fun j => .int (Int32.ofInt ((sp_num k).getD j 0))) (sp_A ad) U U.heap) ∧
  (∀ i : Nat, i < 5 → vk_R RX2 (sp_sx i) (sp_tx i) (ad (80 + i)) U) ∧ vk_S 5 sp_len sp_byt (fun i => ad (80 + i)) (fun i => ad (85 + i)) (sp_A ad) U U.heap ∧
  va_Z "java/lang/String" "COMPACT_STRINGS" "Z" (.int 1) (sp_A ad) U U.heap ∧ va_Zq "jdk/internal/util/Preconditions" "SIOOBE_FORMATTER" "Ljava/util/function/BiFunction;" (sp_A ad) U U.heap
theorem sp_Ext.mv {ad : Nat → Nat} {s U : State} (hW : s.WarmedH U.vm) (hq : ∀ a : Nat, a < s.heap.size → ¬ sp_A ad a → U.heap[a]? = s.heap[a]?) (h : sp_Ext ad s) : sp_Ext ad U := by
  obtain ⟨h1, h2, h3, h4, h5⟩ := h
  refine ⟨fun k hk => ⟨((h1 k hk).1.moved hW.alike).kept hq, ((h1 k hk).2.moved hW.alike).kept hq⟩, fun i hi => vk_R.warm hW (h2 i hi), (h3.moved hW.alike).kept hq, (h4.moved hW.alike).kept hq, ?_⟩
  rcases h5 with h5 | ⟨t, h5⟩
  · exact Or.inl ((h5.moved hW.alike).kept hq)
  · exact Or.inr ⟨t, (h5.moved hW.alike).kept hq⟩
theorem sp_Ext.same {ad : Nat → Nat} {s U : State} (hv : s.vm = U.vm) (hh : U.heap = s.heap) (h : sp_Ext ad s) : sp_Ext ad U := by
  refine sp_Ext.mv ?_ (fun a _ _ => by rw [hh]) h
  rw [← hv]
  exact State.WarmedH.refl s
/-! the contract, and the walk -/
def sp_Wd (D : va_G) (cA : Nat → ClassId) (ad : Nat → Nat) (g : sp_G) (U : State) : Prop := va_P D sp_cl (sp_W ad cA g) U.heap ∧ va_K D sp_cl (sp_ty cA) U ∧ va_D (sp_A ad) (sp_W ad cA g) ∧ sp_Nst U ∧ sp_Ext ad U
def sp_Q (D : va_G) (cA : Nat → ClassId) (ad : Nat → Nat) (Q : sp_P) : Array Value → State → Outcome → State → Prop := fun _ st oc t => (∃ (v : Option sp_V) (g2 : sp_G), oc = .returned (v.map (sp_cv ad)) ∧ Q v g2 ∧ va_P D sp_cl (sp_W ad cA g2) t.heap) ∧ va_F (sp_A ad) st t
def sp_rm (d : Nat) : Room := { frames := d, cells := 0, slots := 0, locals := 38 * d }
def sp_Met (d : Nat) (M : sp_M) (as : List sp_V) (g : sp_G) (Q : sp_P) : Prop := ∀ (l : Launch) (D : va_G) (cA : Nat → ClassId) (ad : Nat → Nat), Met l M.1 (sp_ws M) (sp_rm d) (va_Pc (as.map (sp_cv ad)) (sp_Wd D cA ad g)) (sp_Q D cA ad Q) 0 0 (sp_A ad)
def sp_lv (ad : Nat → Nat) : Nat → List (Option sp_V) → List (Nat × Value)
  | _, [] => []
  | k, none :: t => sp_lv ad (k + 1) t
  | k, some v :: t => (k, sp_cv ad v) :: sp_lv ad (k + 1) t
theorem sp_lv_mem {ad : Nat → Nat} {q : Nat × Value} : ∀ {L : List (Option sp_V)} {k : Nat}, q ∈ sp_lv ad k L ↔ ∃ i v, L[i]? = some (some v) ∧ q = (k + i, sp_cv ad v) := by
  intro L
  induction L with
  | nil => intro k; simp [sp_lv]
  | cons a t ih =>
    intro k
    cases a with
    | none =>
      rw [sp_lv, ih]
      constructor
      · rintro ⟨i, v, h1, h2⟩
        exact ⟨i + 1, v, by simpa using h1, by rw [h2]; congr 1; omega⟩
      · rintro ⟨i, v, h1, h2⟩
        cases i with
        | zero => simp at h1
        | succ i => exact ⟨i, v, by simpa using h1, by rw [h2]; congr 1; omega⟩
    | some x =>
      rw [sp_lv, List.mem_cons, ih]
      constructor
      · rintro (h | ⟨i, v, h1, h2⟩)
        · exact ⟨0, x, rfl, by rw [h]; rfl⟩
        · exact ⟨i + 1, v, by simpa using h1, by rw [h2]; congr 1; omega⟩
      · rintro ⟨i, v, h1, h2⟩
        cases i with
        | zero => simp at h1; subst h1; exact Or.inl (by rw [h2]; rfl)
        | succ i => exact Or.inr ⟨i, v, by simpa using h1, by rw [h2]; congr 1; omega⟩
def sp_Cx (l : Launch) (D : va_G) (cA : Nat → ClassId) (ad : Nat → Nat) (M : sp_M) (p : Program) (s : State) (m : MethodId) (args : Array Value) (meth : Method) (c : Code) : Prop :=
  p.tables.exec = Jvm.exec ∧ c.code = M.2.1 ∧ c.maxLocals = M.2.2.1 ∧ meth.sig.returnType = M.2.2.2 ∧ meth.locks = false ∧ s.vm.findClass M.1.cls = some m.cls ∧ (∀ w ∈ sp_ws M, w.before args s = true) ∧ va_K D sp_cl (sp_ty cA) s ∧ sp_Nst s ∧ sp_Ext ad s
def sp_AW (M : sp_M) (d pc : Nat) (L : List (Option sp_V)) (st : List sp_V) (g : sp_G) (Q : sp_P) : Prop :=
  ∀ (l : Launch) (D : va_G) (cA : Nat → ClassId) (ad : Nat → Nat) (p : Program) (e : Env) (s : State) (m : MethodId) (args : Array Value) (below : List Frame) (meth : Method) (c : Code), sp_Cx l D cA ad M p s m args meth c →
  ∀ (H : Heap) (locs : List Loc) (ls : Array Slot), va_P D sp_cl (sp_W ad cA g) H → va_D (sp_A ad) (sp_W ad cA g) → va_S (sp_A ad) s.heap H locs → lv_has ls M.2.2.1 (sp_lv ad 0 L) →
  W p l e (sp_rm d) s m args below meth c H locs 0 0 (MQ below (sp_Q D cA ad Q) args s 0 0 (sp_A ad)) (F0 m pc ls (st.map (sp_cv ad)))
def sp_psh : Option sp_V → List sp_V → List sp_V
  | none, st => st
  | some v, st => v :: st
def sp_nl : Option sp_V → Bool
  | some (.inr (.inl _)) => false
  | _ => true
def sp_ent (as : List sp_V) (n : Nat) : List (Option sp_V) := as.map some ++ List.replicate (n - as.length) none
/-- a method's contract out of a walk of its body -/
theorem sp_of {d : Nat} {M : sp_M} {as : List sp_V} {g : sp_G} {Q : sp_P} {L : List (Option sp_V)} (hpl : plainName M.1.cls = true) (hn : as.length ≤ M.2.2.1) (hnl : as.all (fun v => sp_nl (some v)) = true) (hL : sp_ent as M.2.2.1 = L) (k : sp_AW M d 0 L [] g Q) : sp_Met d M as g Q := by
  intro l D cA ad
  refine Met.ofW (cc := M.2.1) (maxL := M.2.2.1) (ret := M.2.2.2) hpl rfl ?_
  intro p e s m args below meth c s₁ B hml hv
  obtain ⟨rfl, hP, hK, hD, hN, hE⟩ := hv
  have hts := atoms_spec (ws := sp_ws M) B.pre
  have hown : s.vm.findClass M.1.cls = some m.cls := findClass_of_methodNamed B.named
  have hc1 : ∀ v ∈ as, ¬ (sp_cv ad v).category = 2 := by
    intro v hv
    have h1 := List.all_eq_true.mp hnl v hv
    match v with
    | .inl x => simp [sp_cv, Value.category]
    | .inr (.inl x) => simp [sp_nl] at h1
    | .inr (.inr k) => simp [sp_cv, Value.category]
  have hsl : ∀ (t : List sp_V), (∀ v ∈ t, ¬ (sp_cv ad v).category = 2) → lg_sl (t.map (sp_cv ad)) = t.map (fun v => Slot.val (sp_cv ad v)) := by
    intro t ht
    induction t with
    | nil => rfl
    | cons a t ih =>
      have h1 := ih (fun v hv => ht v (List.mem_cons_of_mem _ hv))
      simp only [lg_sl, List.map_cons, List.flatMap_cons, if_neg (ht a List.mem_cons_self)] at h1 ⊢
      rw [h1]; rfl
  have hlen : (lg_sl (as.map (sp_cv ad))).length = as.length := by rw [hsl as hc1]; simp
  have hl := lv_entry (as.map (sp_cv ad)) (n := M.2.2.1) (by rw [hlen]; exact hn)
  have hargs : ∀ (t : List sp_V) (k : Nat), (∀ v ∈ t, ¬ (sp_cv ad v).category = 2) → ∀ (r : Nat), ∀ q ∈ sp_lv ad k (t.map some ++ List.replicate r none), q ∈ lv_args k (t.map (sp_cv ad)) := by
    intro t
    induction t with
    | nil =>
      intro k _ r q hq
      exfalso
      obtain ⟨i, v, h1, -⟩ := sp_lv_mem.mp hq
      simp [List.getElem?_replicate] at h1
    | cons a t ih =>
      intro k ht r q hq
      simp only [List.map_cons, List.cons_append, sp_lv, List.mem_cons] at hq
      simp only [List.map_cons, lv_args, if_neg (ht a List.mem_cons_self), List.mem_cons]
      rcases hq with h | h
      · exact Or.inl h
      · exact Or.inr (ih (k + 1) (fun v hv => ht v (List.mem_cons_of_mem _ hv)) r q h)
  have hl2 : lv_has ((lg_sl (as.map (sp_cv ad)) ++ List.replicate (M.2.2.1 - (lg_sl (as.map (sp_cv ad))).length) Slot.unset).toArray) M.2.2.1 (sp_lv ad 0 L) := by
    refine ⟨hl.1, hl.2.1, fun q hq => hl.2.2 q ?_⟩
    rw [← hL] at hq
    exact hargs as 0 hc1 _ q hq
  rw [lg_entry_eq]
  exact k l D cA ad p e s m _ below meth c ⟨B.exec, B.bytes, hml, B.returns, B.notSynchronized, hown, hts, hK, hN, hE⟩ s.heap [] _ hP hD va_S.rf hl2
