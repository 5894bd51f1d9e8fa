/-! numbers -/
theorem sp_t {x : Int} (h : -2147483648 ≤ x ∧ x < 2147483648) : (Int32.ofInt x).toInt = x := Int32.toInt_ofInt_of_le (by omega) (by omega)
theorem sp_t64 {x : Int} (h : -9223372036854775808 ≤ x ∧ x < 9223372036854775808) : (Int64.ofInt x).toInt = x := Int64.toInt_ofInt_of_le (by omega) (by omega)
theorem sp_cl0 {i : Int} {n : Nat} (h : 0 ≤ i ∧ i < n) (hn : n < 2147483648) : (Int32.ofInt i).toNatClampNeg = i.toNat := by
  rw [← Int32.toNat_toInt, sp_t (by omega)]
theorem sp_in0 {i : Int} {n : Nat} (h : 0 ≤ i ∧ i < n) (hn : n < 2147483648) : vp_in (Int32.ofInt i) n := by
  rw [vp_in_iff, sp_t (by omega)]
  exact h
theorem sp_eq {x y : Int} (hr : (-2147483648 ≤ x ∧ x < 2147483648) ∧ (-2147483648 ≤ y ∧ y < 2147483648)) : (Int32.ofInt x = Int32.ofInt y) ↔ x = y := by
  rw [← Int32.toInt_inj, sp_t hr.1, sp_t hr.2]
theorem sp_le {x y : Int} (hr : (-2147483648 ≤ x ∧ x < 2147483648) ∧ (-2147483648 ≤ y ∧ y < 2147483648)) : (Int32.ofInt x ≤ Int32.ofInt y) ↔ x ≤ y := by
  rw [Int32.le_iff_toInt_le, sp_t hr.1, sp_t hr.2]
theorem sp_lt {x y : Int} (hr : (-2147483648 ≤ x ∧ x < 2147483648) ∧ (-2147483648 ≤ y ∧ y < 2147483648)) : (Int32.ofInt x < Int32.ofInt y) ↔ x < y := by
  rw [Int32.lt_iff_toInt_lt, sp_t hr.1, sp_t hr.2]
theorem sp_z : (Int32.ofInt 0) = 0 := rfl
theorem sp_eq0 {x : Int} (hr : -2147483648 ≤ x ∧ x < 2147483648) : (Int32.ofInt x = 0) ↔ x = 0 := sp_eq (y := 0) ⟨hr, by omega⟩
theorem sp_div {x y : Int} (hr : (0 ≤ x ∧ x < 2147483648) ∧ (0 < y ∧ y < 2147483648)) : Int32.ofInt x / Int32.ofInt y = Int32.ofInt (x / y) := by
  have h0 : 0 ≤ x / y := Int.ediv_nonneg hr.1.1 (by omega)
  have h1 : x / y ≤ x := Int.ediv_le_self _ hr.1.1
  rw [← Int32.toInt_inj, Int32.toInt_div_of_ne_left, sp_t (x := x) (by omega), sp_t (x := y) (by omega), sp_t (by omega), Int.tdiv_eq_ediv_of_nonneg hr.1.1]
  intro e
  have := congrArg Int32.toInt e
  rw [sp_t (by omega)] at this
  rw [this] at hr
  exact absurd hr.1.1 (by decide)
theorem sp_rem {x y : Int} (hr : (0 ≤ x ∧ x < 2147483648) ∧ (0 < y ∧ y < 2147483648)) : Int32.ofInt x - Int32.ofInt x / Int32.ofInt y * Int32.ofInt y = Int32.ofInt (x % y) := by
  rw [sp_div hr, ← Int32.ofInt_mul, ← Int32.ofInt_sub]
  congr 1
  have := Int.mul_ediv_add_emod x y
  rw [Int.mul_comm] at this
  omega
theorem sp_ldiv {x y : Int} (hr : (0 ≤ x ∧ x < 9223372036854775808) ∧ (0 < y ∧ y < 9223372036854775808)) : Int64.ofInt x / Int64.ofInt y = Int64.ofInt (x / y) := by
  have h0 : 0 ≤ x / y := Int.ediv_nonneg hr.1.1 (by omega)
  have h1 : x / y ≤ x := Int.ediv_le_self _ hr.1.1
  rw [← Int64.toInt_inj, Int64.toInt_div_of_ne_left, sp_t64 (x := x) (by omega), sp_t64 (x := y) (by omega), sp_t64 (by omega), Int.tdiv_eq_ediv_of_nonneg hr.1.1]
  intro e
  have := congrArg Int64.toInt e
  rw [sp_t64 (by omega)] at this
  rw [this] at hr
  exact absurd hr.1.1 (by decide)
theorem sp_lrem {x y : Int} (hr : (0 ≤ x ∧ x < 9223372036854775808) ∧ (0 < y ∧ y < 9223372036854775808)) : Int64.ofInt x - Int64.ofInt x / Int64.ofInt y * Int64.ofInt y = Int64.ofInt (x % y) := by
  rw [sp_ldiv hr, ← Int64.ofInt_mul, ← Int64.ofInt_sub]
  congr 1
  have := Int.mul_ediv_add_emod x y
  rw [Int.mul_comm] at this
  omega
theorem sp_ne0 {y : Int} (h : 0 < y ∧ y < 2147483648) : ¬ Int32.ofInt y = 0 := by
  rw [sp_eq0 (by omega)]; omega
theorem sp_lne0 {y : Int} (h : 0 < y ∧ y < 9223372036854775808) : ¬ Int64.ofInt y = 0 := by
  intro e
  have := congrArg Int64.toInt e
  rw [sp_t64 (by omega)] at this
  rw [this] at h
  exact absurd h.1 (by decide)
def sp_and (x y : Int) : Int := (Int32.ofInt x &&& Int32.ofInt y).toInt
def sp_or (x y : Int) : Int := (Int32.ofInt x ||| Int32.ofInt y).toInt
def sp_xor (x y : Int) : Int := (Int32.ofInt x ^^^ Int32.ofInt y).toInt
def sp_shl (x y : Int) : Int := (Int32.ofInt x <<< (Int32.ofInt y &&& 31)).toInt
def sp_shr (x y : Int) : Int := (Int32.ofInt x >>> (Int32.ofInt y &&& 31)).toInt
def sp_c1 : sp_V → Bool
  | .inr (.inl _) => false
  | _ => true
theorem sp_c1_ok {ad : Nat → Nat} {v : sp_V} (h : sp_c1 v = true) : (sp_cv ad v).category = 1 := by
  match v with
  | .inl x => rfl
  | .inr (.inl x) => cases h
  | .inr (.inr k) => rfl
section RULES
variable {M : sp_M} {d pc : Nat} {L L2 : List (Option sp_V)} {st : List sp_V} {g : sp_G} {Q : sp_P}
theorem aw_iconst {n : Int} (hd : decode M.2.1 pc = .ok (.iconst n, 1)) (k : sp_AW M d (pc + 1) L (v_i n :: st) g Q) : sp_AW M d pc L (st) g Q := by
  intro l D cA ad p e s m args below meth c C H locs ls hP hD hS hl
  have K := k l D cA ad p e s m args below meth c C H locs ls hP hD hS hl
  refine lv_iconst (v := Int32.ofInt n) C.1 C.2.1 hd rfl ?_
  exact K
theorem aw_bipush {n : Int} (hd : decode M.2.1 pc = .ok (.bipush n, 2)) (hn : (Int8.ofInt n).toInt32 = Int32.ofInt n) (k : sp_AW M d (pc + 2) L (v_i n :: st) g Q) : sp_AW M d pc L (st) g Q := by
  intro l D cA ad p e s m args below meth c C H locs ls hP hD hS hl
  have K := k l D cA ad p e s m args below meth c C H locs ls hP hD hS hl
  refine lv_bipush (v := Int32.ofInt n) C.1 C.2.1 hd hn ?_
  exact K
theorem aw_sipush {n : Int} (hd : decode M.2.1 pc = .ok (.sipush n, 3)) (hn : (Int16.ofInt n).toInt32 = Int32.ofInt n) (k : sp_AW M d (pc + 3) L (v_i n :: st) g Q) : sp_AW M d pc L (st) g Q := by
  intro l D cA ad p e s m args below meth c C H locs ls hP hD hS hl
  have K := k l D cA ad p e s m args below meth c C H locs ls hP hD hS hl
  refine lv_sipush (v := Int32.ofInt n) C.1 C.2.1 hd hn ?_
  exact K
theorem aw_ldc {n : Int} {ix : Nat} (hd : decode M.2.1 pc = .ok (.ldc ix, 2)) (hw : Cond.constant M.1.cls ix (Int32.ofInt n) ∈ sp_T) (k : sp_AW M d (pc + 2) L (v_i n :: st) g Q) : sp_AW M d pc L (st) g Q := by
  intro l D cA ad p e s m args below meth c C H locs ls hP hD hS hl
  have K := k l D cA ad p e s m args below meth c C H locs ls hP hD hS hl
  refine lv_ldc C.1 C.2.1 C.2.2.2.2.2.1 (C.2.2.2.2.2.2.1 _ (List.mem_cons_of_mem _ hw)) hd ?_
  exact K
theorem aw_ldc2 {n : Int} {ix : Nat} (hd : decode M.2.1 pc = .ok (.ldc2_w ix, 3)) (hw : Cond.constantLong M.1.cls ix (Int64.ofInt n) ∈ sp_T) (k : sp_AW M d (pc + 3) L (v_l n :: st) g Q) : sp_AW M d pc L (st) g Q := by
  intro l D cA ad p e s m args below meth c C H locs ls hP hD hS hl
  have K := k l D cA ad p e s m args below meth c C H locs ls hP hD hS hl
  refine lv_ldc2 C.1 C.2.1 C.2.2.2.2.2.1 (C.2.2.2.2.2.2.1 _ (List.mem_cons_of_mem _ hw)) hd ?_
  exact K
theorem sp_ld {ad : Nat → Nat} {ls : Array Slot} {nL i : Nat} {L : List (Option sp_V)} {v : sp_V} (hl : lv_has ls nL (sp_lv ad 0 L)) (h : L[i]? = some (some v)) : ls[i]? = some (.val (sp_cv ad v)) := by
  have := hl.2.2 (0 + i, sp_cv ad v) (sp_lv_mem.mpr ⟨i, v, h, rfl⟩)
  simpa using this
theorem aw_iload {i : Nat} {x : Int} (hd : decode M.2.1 pc = .ok (.iload i, 2)) (h : L[i]? = some (some (v_i x))) (k : sp_AW M d (pc + 2) L (v_i x :: st) g Q) : sp_AW M d pc L (st) g Q := by
  intro l D cA ad p e s m args below meth c C H locs ls hP hD hS hl
  have K := k l D cA ad p e s m args below meth c C H locs ls hP hD hS hl
  refine lv_iload C.1 C.2.1 hd (sp_ld hl h) ?_
  exact K
theorem aw_iload_n {j : Fin 4} {x : Int} (hd : decode M.2.1 pc = .ok (.iload_n j, 1)) (h : L[(j : Nat)]? = some (some (v_i x))) (k : sp_AW M d (pc + 1) L (v_i x :: st) g Q) : sp_AW M d pc L (st) g Q := by
  intro l D cA ad p e s m args below meth c C H locs ls hP hD hS hl
  have K := k l D cA ad p e s m args below meth c C H locs ls hP hD hS hl
  refine lv_iload_n C.1 C.2.1 hd rfl (sp_ld hl h) ?_
  exact K
theorem aw_lload {i : Nat} {x : Int} (hd : decode M.2.1 pc = .ok (.lload i, 2)) (h : L[i]? = some (some (v_l x))) (k : sp_AW M d (pc + 2) L (v_l x :: st) g Q) : sp_AW M d pc L (st) g Q := by
  intro l D cA ad p e s m args below meth c C H locs ls hP hD hS hl
  have K := k l D cA ad p e s m args below meth c C H locs ls hP hD hS hl
  refine lv_lload C.1 C.2.1 hd (sp_ld hl h) ?_
  exact K
theorem aw_lload_n {j : Fin 4} {x : Int} (hd : decode M.2.1 pc = .ok (.lload_n j, 1)) (h : L[(j : Nat)]? = some (some (v_l x))) (k : sp_AW M d (pc + 1) L (v_l x :: st) g Q) : sp_AW M d pc L (st) g Q := by
  intro l D cA ad p e s m args below meth c C H locs ls hP hD hS hl
  have K := k l D cA ad p e s m args below meth c C H locs ls hP hD hS hl
  refine lv_lload_n C.1 C.2.1 hd rfl (sp_ld hl h) ?_
  exact K
theorem aw_aload {i : Nat} {x : Nat} (hd : decode M.2.1 pc = .ok (.aload i, 2)) (h : L[i]? = some (some (v_r x))) (k : sp_AW M d (pc + 2) L (v_r x :: st) g Q) : sp_AW M d pc L (st) g Q := by
  intro l D cA ad p e s m args below meth c C H locs ls hP hD hS hl
  have K := k l D cA ad p e s m args below meth c C H locs ls hP hD hS hl
  refine lv_aload C.1 C.2.1 hd (sp_ld hl h) ?_
  exact K
theorem aw_aload_n {j : Fin 4} {x : Nat} (hd : decode M.2.1 pc = .ok (.aload_n j, 1)) (h : L[(j : Nat)]? = some (some (v_r x))) (k : sp_AW M d (pc + 1) L (v_r x :: st) g Q) : sp_AW M d pc L (st) g Q := by
  intro l D cA ad p e s m args below meth c C H locs ls hP hD hS hl
  have K := k l D cA ad p e s m args below meth c C H locs ls hP hD hS hl
  refine lv_aload_n C.1 C.2.1 hd rfl (sp_ld hl h) ?_
  exact K
def sp_pl (L : List (Option sp_V)) (i : Nat) : Bool := match i with
  | 0 => true
  | j + 1 => match L[j]? with
    | some x => sp_nl x
    | none => true
theorem sp_pl_ok {ad : Nat → Nat} {L : List (Option sp_V)} {i j : Nat} {v : sp_V} (h : sp_pl L i = true) (hv : L[j]? = some (some v)) (hj : j + 1 = i) : ¬ (sp_cv ad v).category = 2 := by
  subst hj
  simp only [sp_pl, hv] at h
  match v with
  | .inl x => simp [sp_cv, Value.category]
  | .inr (.inl x) => simp [sp_nl] at h
  | .inr (.inr k) => simp [sp_cv, Value.category]
theorem sp_sto1 {ad : Nat → Nat} {ls : Array Slot} {nL i : Nat} {L : List (Option sp_V)} {v : sp_V} (hp : sp_pl L i = true) (h : lv_has ls nL ((i, sp_cv ad v) :: (sp_lv ad 0 L).filter (fun q => !(q.1 == i) && !(q.1 + 1 == i && q.2.category == 2)))) : lv_has ls nL (sp_lv ad 0 (L.set i (some v))) := by
  refine ⟨h.1, h.2.1, fun q hq => h.2.2 q ?_⟩
  obtain ⟨j, x, h1, rfl⟩ := sp_lv_mem.mp hq
  by_cases hj : j = i
  · subst hj
    have hlt : j < L.length := by
      have := (List.getElem?_eq_some_iff.mp h1).1
      simpa using this
    rw [List.getElem?_set_self hlt] at h1
    cases h1
    simp
  · rw [List.getElem?_set_ne (fun e => hj e.symm)] at h1
    refine List.mem_cons_of_mem _ (List.mem_filter.mpr ⟨sp_lv_mem.mpr ⟨j, x, h1, rfl⟩, ?_⟩)
    simp only [Nat.zero_add, Bool.and_eq_true, Bool.not_eq_true', beq_eq_false_iff_ne, ne_eq]
    refine ⟨hj, ?_⟩
    by_cases hj2 : j + 1 = i
    · have := sp_pl_ok (ad := ad) hp h1 hj2
      simp [this]
    · simp [hj2]
theorem sp_sto2 {ad : Nat → Nat} {ls : Array Slot} {nL i : Nat} {L : List (Option sp_V)} {v : sp_V} (hp : sp_pl L i = true) (h : lv_has ls nL ((i, sp_cv ad v) :: (sp_lv ad 0 L).filter (fun q => !(q.1 == i) && (!(q.1 == i + 1) && !(q.1 + 1 == i && q.2.category == 2))))) : lv_has ls nL (sp_lv ad 0 ((L.set i (some v)).set (i + 1) none)) := by
  refine ⟨h.1, h.2.1, fun q hq => h.2.2 q ?_⟩
  obtain ⟨j, x, h1, rfl⟩ := sp_lv_mem.mp hq
  by_cases hj3 : j = i + 1
  · subst hj3
    exfalso
    have hlt : i + 1 < ((L.set i (some v)).set (i + 1) none).length := (List.getElem?_eq_some_iff.mp h1).1
    rw [List.getElem?_set_self (by simpa using hlt)] at h1
    cases h1
  rw [List.getElem?_set_ne (fun e => hj3 e.symm)] at h1
  by_cases hj : j = i
  · subst hj
    have hlt : j < L.length := by
      have := (List.getElem?_eq_some_iff.mp h1).1
      simpa using this
    rw [List.getElem?_set_self hlt] at h1
    cases h1
    simp
  · rw [List.getElem?_set_ne (fun e => hj e.symm)] at h1
    refine List.mem_cons_of_mem _ (List.mem_filter.mpr ⟨sp_lv_mem.mpr ⟨j, x, h1, rfl⟩, ?_⟩)
    simp only [Nat.zero_add, Bool.and_eq_true, Bool.not_eq_true', beq_eq_false_iff_ne, ne_eq]
    refine ⟨hj, hj3, ?_⟩
    by_cases hj2 : j + 1 = i
    · have := sp_pl_ok (ad := ad) hp h1 hj2
      simp [this]
    · simp [hj2]
theorem aw_istore {i : Nat} {x : Int} (hd : decode M.2.1 pc = .ok (.istore i, 2)) (hn : i < M.2.2.1) (hp : sp_pl L i = true) (hL : L.set i (some (v_i x)) = L2) (k : sp_AW M d (pc + 2) L2 st g Q) : sp_AW M d pc L (v_i x :: st) g Q := by
  intro l D cA ad p e s m args below meth c C H locs ls hP hD hS hl
  subst hL
  exact lv_istore C.1 C.2.1 hd hl hn rfl (fun ls2 h2 => k l D cA ad p e s m args below meth c C H locs ls2 hP hD hS (sp_sto1 (v := v_i x) hp h2))
theorem aw_istore_n {j : Fin 4} {x : Int} (hd : decode M.2.1 pc = .ok (.istore_n j, 1)) (hn : (j : Nat) < M.2.2.1) (hp : sp_pl L (j : Nat) = true) (hL : L.set (j : Nat) (some (v_i x)) = L2) (k : sp_AW M d (pc + 1) L2 st g Q) : sp_AW M d pc L (v_i x :: st) g Q := by
  intro l D cA ad p e s m args below meth c C H locs ls hP hD hS hl
  subst hL
  exact lv_istore_n C.1 C.2.1 hd rfl hl hn rfl (fun ls2 h2 => k l D cA ad p e s m args below meth c C H locs ls2 hP hD hS (sp_sto1 (v := v_i x) hp h2))
theorem aw_astore {i : Nat} {x : Nat} (hd : decode M.2.1 pc = .ok (.astore i, 2)) (hn : i < M.2.2.1) (hp : sp_pl L i = true) (hL : L.set i (some (v_r x)) = L2) (k : sp_AW M d (pc + 2) L2 st g Q) : sp_AW M d pc L (v_r x :: st) g Q := by
  intro l D cA ad p e s m args below meth c C H locs ls hP hD hS hl
  subst hL
  exact lv_astore C.1 C.2.1 hd hl hn rfl (fun ls2 h2 => k l D cA ad p e s m args below meth c C H locs ls2 hP hD hS (sp_sto1 (v := v_r x) hp h2))
theorem aw_astore_n {j : Fin 4} {x : Nat} (hd : decode M.2.1 pc = .ok (.astore_n j, 1)) (hn : (j : Nat) < M.2.2.1) (hp : sp_pl L (j : Nat) = true) (hL : L.set (j : Nat) (some (v_r x)) = L2) (k : sp_AW M d (pc + 1) L2 st g Q) : sp_AW M d pc L (v_r x :: st) g Q := by
  intro l D cA ad p e s m args below meth c C H locs ls hP hD hS hl
  subst hL
  exact lv_astore_n C.1 C.2.1 hd rfl hl hn rfl (fun ls2 h2 => k l D cA ad p e s m args below meth c C H locs ls2 hP hD hS (sp_sto1 (v := v_r x) hp h2))
theorem aw_lstore {i : Nat} {x : Int} (hd : decode M.2.1 pc = .ok (.lstore i, 2)) (hn : i + 1 < M.2.2.1) (hp : sp_pl L i = true) (hL : (L.set i (some (v_l x))).set (i + 1) none = L2) (k : sp_AW M d (pc + 2) L2 st g Q) : sp_AW M d pc L (v_l x :: st) g Q := by
  intro l D cA ad p e s m args below meth c C H locs ls hP hD hS hl
  subst hL
  exact lv_lstore C.1 C.2.1 hd hl hn rfl (fun ls2 h2 => k l D cA ad p e s m args below meth c C H locs ls2 hP hD hS (sp_sto2 (v := v_l x) hp h2))
theorem aw_lstore_n {j : Fin 4} {x : Int} (hd : decode M.2.1 pc = .ok (.lstore_n j, 1)) (hn : (j : Nat) + 1 < M.2.2.1) (hp : sp_pl L (j : Nat) = true) (hL : (L.set (j : Nat) (some (v_l x))).set ((j : Nat) + 1) none = L2) (k : sp_AW M d (pc + 1) L2 st g Q) : sp_AW M d pc L (v_l x :: st) g Q := by
  intro l D cA ad p e s m args below meth c C H locs ls hP hD hS hl
  subst hL
  exact lv_lstore_n C.1 C.2.1 hd rfl hl hn rfl (fun ls2 h2 => k l D cA ad p e s m args below meth c C H locs ls2 hP hD hS (sp_sto2 (v := v_l x) hp h2))
theorem aw_iinc {i : Nat} {n x : Int} (hd : decode M.2.1 pc = .ok (.iinc i n, 3)) (h : L[i]? = some (some (v_i x))) (hn : i < M.2.2.1) (hp : sp_pl L i = true) (hL : L.set i (some (v_i (x + n))) = L2) (k : sp_AW M d (pc + 3) L2 st g Q) : sp_AW M d pc L st g Q := by
  intro l D cA ad p e s m args below meth c C H locs ls hP hD hS hl
  subst hL
  obtain ⟨k0, hk0⟩ := List.getElem?_of_mem (sp_lv_mem.mpr ⟨i, v_i x, h, rfl⟩ : ((0 + i, sp_cv ad (v_i x)) : Nat × Value) ∈ sp_lv ad 0 L)
  rw [Nat.zero_add] at hk0
  exact lv_iinc (k := k0) (v := Int32.ofInt (x + n)) C.1 C.2.1 hd hl hk0 (Int32.ofInt_add x n).symm hn rfl (fun ls2 h2 => k l D cA ad p e s m args below meth c C H locs ls2 hP hD hS (sp_sto1 (v := v_i (x + n)) hp h2))
theorem aw_iadd {x y : Int} (hd : decode M.2.1 pc = .ok (.iadd, 1)) (k : sp_AW M d (pc + 1) L (v_i (x + y) :: st) g Q) : sp_AW M d pc L (v_i y :: v_i x :: st) g Q := by
  intro l D cA ad p e s m args below meth c C H locs ls hP hD hS hl
  have K := k l D cA ad p e s m args below meth c C H locs ls hP hD hS hl
  refine lv_iadd C.1 C.2.1 hd ?_
  rw [← Int32.ofInt_add]
  exact K
theorem aw_isub {x y : Int} (hd : decode M.2.1 pc = .ok (.isub, 1)) (k : sp_AW M d (pc + 1) L (v_i (x - y) :: st) g Q) : sp_AW M d pc L (v_i y :: v_i x :: st) g Q := by
  intro l D cA ad p e s m args below meth c C H locs ls hP hD hS hl
  have K := k l D cA ad p e s m args below meth c C H locs ls hP hD hS hl
  refine lv_isub C.1 C.2.1 hd ?_
  rw [← Int32.ofInt_sub]
  exact K
theorem aw_imul {x y : Int} (hd : decode M.2.1 pc = .ok (.imul, 1)) (k : sp_AW M d (pc + 1) L (v_i (x * y) :: st) g Q) : sp_AW M d pc L (v_i y :: v_i x :: st) g Q := by
  intro l D cA ad p e s m args below meth c C H locs ls hP hD hS hl
  have K := k l D cA ad p e s m args below meth c C H locs ls hP hD hS hl
  refine lv_imul C.1 C.2.1 hd ?_
  rw [← Int32.ofInt_mul]
  exact K
theorem aw_ladd {x y : Int} (hd : decode M.2.1 pc = .ok (.ladd, 1)) (k : sp_AW M d (pc + 1) L (v_l (x + y) :: st) g Q) : sp_AW M d pc L (v_l y :: v_l x :: st) g Q := by
  intro l D cA ad p e s m args below meth c C H locs ls hP hD hS hl
  have K := k l D cA ad p e s m args below meth c C H locs ls hP hD hS hl
  refine lv_ladd C.1 C.2.1 hd ?_
  rw [← Int64.ofInt_add]
  exact K
theorem aw_lmul {x y : Int} (hd : decode M.2.1 pc = .ok (.lmul, 1)) (k : sp_AW M d (pc + 1) L (v_l (x * y) :: st) g Q) : sp_AW M d pc L (v_l y :: v_l x :: st) g Q := by
  intro l D cA ad p e s m args below meth c C H locs ls hP hD hS hl
  have K := k l D cA ad p e s m args below meth c C H locs ls hP hD hS hl
  refine lv_lmul C.1 C.2.1 hd ?_
  rw [← Int64.ofInt_mul]
  exact K
theorem aw_idiv {x y : Int} (hd : decode M.2.1 pc = .ok (.idiv, 1)) (hr : (0 ≤ x ∧ x < 2147483648) ∧ (0 < y ∧ y < 2147483648)) (k : sp_AW M d (pc + 1) L (v_i (x / y) :: st) g Q) : sp_AW M d pc L (v_i y :: v_i x :: st) g Q := by
  intro l D cA ad p e s m args below meth c C H locs ls hP hD hS hl
  have K := k l D cA ad p e s m args below meth c C H locs ls hP hD hS hl
  refine lv_idiv C.1 C.2.1 hd (sp_ne0 hr.2) ?_
  rw [sp_div hr]
  exact K
theorem aw_irem {x y : Int} (hd : decode M.2.1 pc = .ok (.irem, 1)) (hr : (0 ≤ x ∧ x < 2147483648) ∧ (0 < y ∧ y < 2147483648)) (k : sp_AW M d (pc + 1) L (v_i (x % y) :: st) g Q) : sp_AW M d pc L (v_i y :: v_i x :: st) g Q := by
  intro l D cA ad p e s m args below meth c C H locs ls hP hD hS hl
  have K := k l D cA ad p e s m args below meth c C H locs ls hP hD hS hl
  refine lv_irem C.1 C.2.1 hd (sp_ne0 hr.2) ?_
  rw [sp_rem hr]
  exact K
theorem aw_ldiv {x y : Int} (hd : decode M.2.1 pc = .ok (.ldiv, 1)) (hr : (0 ≤ x ∧ x < 9223372036854775808) ∧ (0 < y ∧ y < 9223372036854775808)) (k : sp_AW M d (pc + 1) L (v_l (x / y) :: st) g Q) : sp_AW M d pc L (v_l y :: v_l x :: st) g Q := by
  intro l D cA ad p e s m args below meth c C H locs ls hP hD hS hl
  have K := k l D cA ad p e s m args below meth c C H locs ls hP hD hS hl
  refine lv_ldiv C.1 C.2.1 hd (sp_lne0 hr.2) ?_
  rw [sp_ldiv hr]
  exact K
theorem aw_lrem {x y : Int} (hd : decode M.2.1 pc = .ok (.lrem, 1)) (hr : (0 ≤ x ∧ x < 9223372036854775808) ∧ (0 < y ∧ y < 9223372036854775808)) (k : sp_AW M d (pc + 1) L (v_l (x % y) :: st) g Q) : sp_AW M d pc L (v_l y :: v_l x :: st) g Q := by
  intro l D cA ad p e s m args below meth c C H locs ls hP hD hS hl
  have K := k l D cA ad p e s m args below meth c C H locs ls hP hD hS hl
  refine lv_lrem C.1 C.2.1 hd (sp_lne0 hr.2) ?_
  rw [sp_lrem hr]
  exact K
theorem aw_iand {x y : Int} (hd : decode M.2.1 pc = .ok (.iand, 1)) (k : sp_AW M d (pc + 1) L (v_i (sp_and x y) :: st) g Q) : sp_AW M d pc L (v_i y :: v_i x :: st) g Q := by
  intro l D cA ad p e s m args below meth c C H locs ls hP hD hS hl
  have K := k l D cA ad p e s m args below meth c C H locs ls hP hD hS hl
  refine lv_iand C.1 C.2.1 hd ?_
  simp only [List.map_cons, sp_cv, sp_and, Int32.ofInt_toInt] at K
  exact K
theorem aw_ior {x y : Int} (hd : decode M.2.1 pc = .ok (.ior, 1)) (k : sp_AW M d (pc + 1) L (v_i (sp_or x y) :: st) g Q) : sp_AW M d pc L (v_i y :: v_i x :: st) g Q := by
  intro l D cA ad p e s m args below meth c C H locs ls hP hD hS hl
  have K := k l D cA ad p e s m args below meth c C H locs ls hP hD hS hl
  refine lv_ior C.1 C.2.1 hd ?_
  simp only [List.map_cons, sp_cv, sp_or, Int32.ofInt_toInt] at K
  exact K
theorem aw_ixor {x y : Int} (hd : decode M.2.1 pc = .ok (.ixor, 1)) (k : sp_AW M d (pc + 1) L (v_i (sp_xor x y) :: st) g Q) : sp_AW M d pc L (v_i y :: v_i x :: st) g Q := by
  intro l D cA ad p e s m args below meth c C H locs ls hP hD hS hl
  have K := k l D cA ad p e s m args below meth c C H locs ls hP hD hS hl
  refine lv_ixor C.1 C.2.1 hd ?_
  simp only [List.map_cons, sp_cv, sp_xor, Int32.ofInt_toInt] at K
  exact K
theorem aw_ishl {x y : Int} (hd : decode M.2.1 pc = .ok (.ishl, 1)) (k : sp_AW M d (pc + 1) L (v_i (sp_shl x y) :: st) g Q) : sp_AW M d pc L (v_i y :: v_i x :: st) g Q := by
  intro l D cA ad p e s m args below meth c C H locs ls hP hD hS hl
  have K := k l D cA ad p e s m args below meth c C H locs ls hP hD hS hl
  refine lv_ishl C.1 C.2.1 hd ?_
  simp only [List.map_cons, sp_cv, sp_shl, Int32.ofInt_toInt] at K
  exact K
theorem aw_ishr {x y : Int} (hd : decode M.2.1 pc = .ok (.ishr, 1)) (k : sp_AW M d (pc + 1) L (v_i (sp_shr x y) :: st) g Q) : sp_AW M d pc L (v_i y :: v_i x :: st) g Q := by
  intro l D cA ad p e s m args below meth c C H locs ls hP hD hS hl
  have K := k l D cA ad p e s m args below meth c C H locs ls hP hD hS hl
  refine lv_ishr C.1 C.2.1 hd ?_
  simp only [List.map_cons, sp_cv, sp_shr, Int32.ofInt_toInt] at K
  exact K
theorem aw_i2l {x : Int} (hd : decode M.2.1 pc = .ok (.i2l, 1)) (hr : -2147483648 ≤ x ∧ x < 2147483648) (k : sp_AW M d (pc + 1) L (v_l x :: st) g Q) : sp_AW M d pc L (v_i x :: st) g Q := by
  intro l D cA ad p e s m args below meth c C H locs ls hP hD hS hl
  have K := k l D cA ad p e s m args below meth c C H locs ls hP hD hS hl
  refine lv_i2l (v := Int64.ofInt x) C.1 C.2.1 hd (Int32.toInt64_ofInt (by have : Int32.minValue.toInt = -2147483648 := rfl; omega) (by have : Int32.maxValue.toInt = 2147483647 := rfl; omega)) ?_
  exact K
theorem aw_l2i {x : Int} (hd : decode M.2.1 pc = .ok (.l2i, 1)) (k : sp_AW M d (pc + 1) L (v_i x :: st) g Q) : sp_AW M d pc L (v_l x :: st) g Q := by
  intro l D cA ad p e s m args below meth c C H locs ls hP hD hS hl
  have K := k l D cA ad p e s m args below meth c C H locs ls hP hD hS hl
  refine lv_l2i (v := Int32.ofInt x) C.1 C.2.1 hd Int64.toInt32_ofInt ?_
  exact K
theorem sp_b {x : Int} (h : -128 ≤ x ∧ x < 128) : (Int32.ofInt x).toInt8.toInt32 = Int32.ofInt x := by
  rw [← Int32.toInt_inj]
  rw [sp_t (by omega)]
  simp only [Int8.toInt_toInt32, Int32.toInt_toInt8]
  rw [sp_t (by omega)]
  rw [Int.bmod_eq_of_le (by omega) (by omega)]
theorem aw_i2b {x : Int} (hd : decode M.2.1 pc = .ok (.i2b, 1)) (hr : -128 ≤ x ∧ x < 128) (k : sp_AW M d (pc + 1) L (v_i x :: st) g Q) : sp_AW M d pc L (v_i x :: st) g Q := by
  intro l D cA ad p e s m args below meth c C H locs ls hP hD hS hl
  have K := k l D cA ad p e s m args below meth c C H locs ls hP hD hS hl
  refine lv_i2b (v := Int32.ofInt x) C.1 C.2.1 hd (sp_b hr) ?_
  exact K
theorem aw_dup {v : sp_V} (hd : decode M.2.1 pc = .ok (.dup, 1)) (hc : sp_c1 v = true) (k : sp_AW M d (pc + 1) L (v :: v :: st) g Q) : sp_AW M d pc L (v :: st) g Q := by
  intro l D cA ad p e s m args below meth c C H locs ls hP hD hS hl
  have K := k l D cA ad p e s m args below meth c C H locs ls hP hD hS hl
  refine lv_dup C.1 C.2.1 hd (sp_c1_ok hc) ?_
  exact K
theorem aw_dup2 {v u : sp_V} (hd : decode M.2.1 pc = .ok (.dup2, 1)) (hc : sp_c1 v = true) (hc2 : sp_c1 u = true) (k : sp_AW M d (pc + 1) L (v :: u :: v :: u :: st) g Q) : sp_AW M d pc L (v :: u :: st) g Q := by
  intro l D cA ad p e s m args below meth c C H locs ls hP hD hS hl
  have K := k l D cA ad p e s m args below meth c C H locs ls hP hD hS hl
  refine lv_dup2_11 C.1 C.2.1 hd (sp_c1_ok hc) (sp_c1_ok hc2) ?_
  exact K
theorem aw_pop {v : sp_V} (hd : decode M.2.1 pc = .ok (.pop, 1)) (hc : sp_c1 v = true) (k : sp_AW M d (pc + 1) L (st) g Q) : sp_AW M d pc L (v :: st) g Q := by
  intro l D cA ad p e s m args below meth c C H locs ls hP hD hS hl
  have K := k l D cA ad p e s m args below meth c C H locs ls hP hD hS hl
  refine lv_pop C.1 C.2.1 hd (sp_c1_ok hc) ?_
  exact K
theorem aw_goto {off : Int} {tg : Nat} (hd : decode M.2.1 pc = .ok (.goto off, 3)) (ht : (pc : Int) + off = (tg : Int)) (k : sp_AW M d tg L st g Q) : sp_AW M d pc L st g Q := by
  intro l D cA ad p e s m args below meth c C H locs ls hP hD hS hl
  exact lv_goto C.1 C.2.1 hd ht (k l D cA ad p e s m args below meth c C H locs ls hP hD hS hl)
theorem aw_icmp_lt {x y : Int} {off : Int} {tg : Nat} (hd : decode M.2.1 pc = .ok (.if_icmp .lt off, 3)) (ht : (pc : Int) + off = (tg : Int)) (hr : (-2147483648 ≤ x ∧ x < 2147483648) ∧ (-2147483648 ≤ y ∧ y < 2147483648)) (kt : x < y → sp_AW M d tg L st g Q) (kf : ¬ (x < y) → sp_AW M d (pc + 3) L st g Q) : sp_AW M d pc L (v_i y :: v_i x :: st) g Q := by
  intro l D cA ad p e s m args below meth c C H locs ls hP hD hS hl
  exact lv_icmp_lt C.1 C.2.1 hd ht (fun h => kt ((sp_lt hr).mp h) l D cA ad p e s m args below meth c C H locs ls hP hD hS hl) (fun h => kf ((fun q => h ((sp_lt hr).mpr q))) l D cA ad p e s m args below meth c C H locs ls hP hD hS hl)
theorem aw_icmp_ge {x y : Int} {off : Int} {tg : Nat} (hd : decode M.2.1 pc = .ok (.if_icmp .ge off, 3)) (ht : (pc : Int) + off = (tg : Int)) (hr : (-2147483648 ≤ x ∧ x < 2147483648) ∧ (-2147483648 ≤ y ∧ y < 2147483648)) (kt : y ≤ x → sp_AW M d tg L st g Q) (kf : ¬ (y ≤ x) → sp_AW M d (pc + 3) L st g Q) : sp_AW M d pc L (v_i y :: v_i x :: st) g Q := by
  intro l D cA ad p e s m args below meth c C H locs ls hP hD hS hl
  exact lv_icmp_ge C.1 C.2.1 hd ht (fun h => kt ((sp_le (x := y) (y := x) ⟨hr.2, hr.1⟩).mp h) l D cA ad p e s m args below meth c C H locs ls hP hD hS hl) (fun h => kf ((fun q => h ((sp_le (x := y) (y := x) ⟨hr.2, hr.1⟩).mpr q))) l D cA ad p e s m args below meth c C H locs ls hP hD hS hl)
theorem aw_icmp_gt {x y : Int} {off : Int} {tg : Nat} (hd : decode M.2.1 pc = .ok (.if_icmp .gt off, 3)) (ht : (pc : Int) + off = (tg : Int)) (hr : (-2147483648 ≤ x ∧ x < 2147483648) ∧ (-2147483648 ≤ y ∧ y < 2147483648)) (kt : y < x → sp_AW M d tg L st g Q) (kf : ¬ (y < x) → sp_AW M d (pc + 3) L st g Q) : sp_AW M d pc L (v_i y :: v_i x :: st) g Q := by
  intro l D cA ad p e s m args below meth c C H locs ls hP hD hS hl
  exact lv_icmp_gt C.1 C.2.1 hd ht (fun h => kt ((sp_lt (x := y) (y := x) ⟨hr.2, hr.1⟩).mp h) l D cA ad p e s m args below meth c C H locs ls hP hD hS hl) (fun h => kf ((fun q => h ((sp_lt (x := y) (y := x) ⟨hr.2, hr.1⟩).mpr q))) l D cA ad p e s m args below meth c C H locs ls hP hD hS hl)
theorem aw_icmp_le {x y : Int} {off : Int} {tg : Nat} (hd : decode M.2.1 pc = .ok (.if_icmp .le off, 3)) (ht : (pc : Int) + off = (tg : Int)) (hr : (-2147483648 ≤ x ∧ x < 2147483648) ∧ (-2147483648 ≤ y ∧ y < 2147483648)) (kt : x ≤ y → sp_AW M d tg L st g Q) (kf : ¬ (x ≤ y) → sp_AW M d (pc + 3) L st g Q) : sp_AW M d pc L (v_i y :: v_i x :: st) g Q := by
  intro l D cA ad p e s m args below meth c C H locs ls hP hD hS hl
  exact lv_icmp_le C.1 C.2.1 hd ht (fun h => kt ((sp_le hr).mp h) l D cA ad p e s m args below meth c C H locs ls hP hD hS hl) (fun h => kf ((fun q => h ((sp_le hr).mpr q))) l D cA ad p e s m args below meth c C H locs ls hP hD hS hl)
theorem aw_icmp_eq {x y : Int} {off : Int} {tg : Nat} (hd : decode M.2.1 pc = .ok (.if_icmp .eq off, 3)) (ht : (pc : Int) + off = (tg : Int)) (hr : (-2147483648 ≤ x ∧ x < 2147483648) ∧ (-2147483648 ≤ y ∧ y < 2147483648)) (kt : x = y → sp_AW M d tg L st g Q) (kf : ¬ (x = y) → sp_AW M d (pc + 3) L st g Q) : sp_AW M d pc L (v_i y :: v_i x :: st) g Q := by
  intro l D cA ad p e s m args below meth c C H locs ls hP hD hS hl
  exact lv_icmp_eq C.1 C.2.1 hd ht (fun h => kt ((sp_eq hr).mp h) l D cA ad p e s m args below meth c C H locs ls hP hD hS hl) (fun h => kf ((fun q => h ((sp_eq hr).mpr q))) l D cA ad p e s m args below meth c C H locs ls hP hD hS hl)
theorem aw_icmp_ne {x y : Int} {off : Int} {tg : Nat} (hd : decode M.2.1 pc = .ok (.if_icmp .ne off, 3)) (ht : (pc : Int) + off = (tg : Int)) (hr : (-2147483648 ≤ x ∧ x < 2147483648) ∧ (-2147483648 ≤ y ∧ y < 2147483648)) (kt : ¬ x = y → sp_AW M d tg L st g Q) (kf : x = y → sp_AW M d (pc + 3) L st g Q) : sp_AW M d pc L (v_i y :: v_i x :: st) g Q := by
  intro l D cA ad p e s m args below meth c C H locs ls hP hD hS hl
  exact lv_icmp_ne C.1 C.2.1 hd ht (fun h => kt ((not_congr (sp_eq hr)).mp h) l D cA ad p e s m args below meth c C H locs ls hP hD hS hl) (fun h => kf (((sp_eq hr).mp h)) l D cA ad p e s m args below meth c C H locs ls hP hD hS hl)
theorem aw_if_lt {x : Int} {off : Int} {tg : Nat} (hd : decode M.2.1 pc = .ok (.ifCond .lt off, 3)) (ht : (pc : Int) + off = (tg : Int)) (hr : -2147483648 ≤ x ∧ x < 2147483648) (kt : x < 0 → sp_AW M d tg L st g Q) (kf : ¬ (x < 0) → sp_AW M d (pc + 3) L st g Q) : sp_AW M d pc L (v_i x :: st) g Q := by
  intro l D cA ad p e s m args below meth c C H locs ls hP hD hS hl
  exact lv_if_lt C.1 C.2.1 hd ht (fun h => kt ((sp_lt (y := 0) ⟨hr, by omega⟩).mp h) l D cA ad p e s m args below meth c C H locs ls hP hD hS hl) (fun h => kf ((fun q => h ((sp_lt (y := 0) ⟨hr, by omega⟩).mpr q))) l D cA ad p e s m args below meth c C H locs ls hP hD hS hl)
theorem aw_if_ge {x : Int} {off : Int} {tg : Nat} (hd : decode M.2.1 pc = .ok (.ifCond .ge off, 3)) (ht : (pc : Int) + off = (tg : Int)) (hr : -2147483648 ≤ x ∧ x < 2147483648) (kt : 0 ≤ x → sp_AW M d tg L st g Q) (kf : ¬ (0 ≤ x) → sp_AW M d (pc + 3) L st g Q) : sp_AW M d pc L (v_i x :: st) g Q := by
  intro l D cA ad p e s m args below meth c C H locs ls hP hD hS hl
  exact lv_if_ge C.1 C.2.1 hd ht (fun h => kt ((sp_le (x := 0) (y := x) ⟨by omega, hr⟩).mp h) l D cA ad p e s m args below meth c C H locs ls hP hD hS hl) (fun h => kf ((fun q => h ((sp_le (x := 0) (y := x) ⟨by omega, hr⟩).mpr q))) l D cA ad p e s m args below meth c C H locs ls hP hD hS hl)
theorem aw_if_gt {x : Int} {off : Int} {tg : Nat} (hd : decode M.2.1 pc = .ok (.ifCond .gt off, 3)) (ht : (pc : Int) + off = (tg : Int)) (hr : -2147483648 ≤ x ∧ x < 2147483648) (kt : 0 < x → sp_AW M d tg L st g Q) (kf : ¬ (0 < x) → sp_AW M d (pc + 3) L st g Q) : sp_AW M d pc L (v_i x :: st) g Q := by
  intro l D cA ad p e s m args below meth c C H locs ls hP hD hS hl
  exact lv_if_gt C.1 C.2.1 hd ht (fun h => kt ((sp_lt (x := 0) (y := x) ⟨by omega, hr⟩).mp h) l D cA ad p e s m args below meth c C H locs ls hP hD hS hl) (fun h => kf ((fun q => h ((sp_lt (x := 0) (y := x) ⟨by omega, hr⟩).mpr q))) l D cA ad p e s m args below meth c C H locs ls hP hD hS hl)
theorem aw_if_le {x : Int} {off : Int} {tg : Nat} (hd : decode M.2.1 pc = .ok (.ifCond .le off, 3)) (ht : (pc : Int) + off = (tg : Int)) (hr : -2147483648 ≤ x ∧ x < 2147483648) (kt : x ≤ 0 → sp_AW M d tg L st g Q) (kf : ¬ (x ≤ 0) → sp_AW M d (pc + 3) L st g Q) : sp_AW M d pc L (v_i x :: st) g Q := by
  intro l D cA ad p e s m args below meth c C H locs ls hP hD hS hl
  exact lv_if_le C.1 C.2.1 hd ht (fun h => kt ((sp_le (y := 0) ⟨hr, by omega⟩).mp h) l D cA ad p e s m args below meth c C H locs ls hP hD hS hl) (fun h => kf ((fun q => h ((sp_le (y := 0) ⟨hr, by omega⟩).mpr q))) l D cA ad p e s m args below meth c C H locs ls hP hD hS hl)
theorem aw_if_eq {x : Int} {off : Int} {tg : Nat} (hd : decode M.2.1 pc = .ok (.ifCond .eq off, 3)) (ht : (pc : Int) + off = (tg : Int)) (hr : -2147483648 ≤ x ∧ x < 2147483648) (kt : x = 0 → sp_AW M d tg L st g Q) (kf : ¬ (x = 0) → sp_AW M d (pc + 3) L st g Q) : sp_AW M d pc L (v_i x :: st) g Q := by
  intro l D cA ad p e s m args below meth c C H locs ls hP hD hS hl
  exact lv_if_eq C.1 C.2.1 hd ht (fun h => kt ((sp_eq0 hr).mp h) l D cA ad p e s m args below meth c C H locs ls hP hD hS hl) (fun h => kf ((fun q => h ((sp_eq0 hr).mpr q))) l D cA ad p e s m args below meth c C H locs ls hP hD hS hl)
theorem aw_if_ne {x : Int} {off : Int} {tg : Nat} (hd : decode M.2.1 pc = .ok (.ifCond .ne off, 3)) (ht : (pc : Int) + off = (tg : Int)) (hr : -2147483648 ≤ x ∧ x < 2147483648) (kt : ¬ x = 0 → sp_AW M d tg L st g Q) (kf : x = 0 → sp_AW M d (pc + 3) L st g Q) : sp_AW M d pc L (v_i x :: st) g Q := by
  intro l D cA ad p e s m args below meth c C H locs ls hP hD hS hl
  exact lv_if_ne C.1 C.2.1 hd ht (fun h => kt ((not_congr (sp_eq0 hr)).mp h) l D cA ad p e s m args below meth c C H locs ls hP hD hS hl) (fun h => kf (((sp_eq0 hr).mp h)) l D cA ad p e s m args below meth c C H locs ls hP hD hS hl)
abbrev sp_bl (c : Prop) [Decidable c] : Int := if c then 1 else 0
theorem aw_ifeq_b {b : Prop} [Decidable b] {off : Int} {tg : Nat} (hd : decode M.2.1 pc = .ok (.ifCond .eq off, 3)) (ht : (pc : Int) + off = (tg : Int)) (kt : ¬ b → sp_AW M d tg L st g Q) (kf : b → sp_AW M d (pc + 3) L st g Q) : sp_AW M d pc L (v_i (sp_bl b) :: st) g Q := by
  refine aw_if_eq hd ht (by by_cases h : b <;> simp [sp_bl, h]) (fun h => kt (fun q => ?_)) (fun h => kf ?_)
  · simp [sp_bl, q] at h
  · by_cases q : b
    · exact q
    · exact absurd (by simp [sp_bl, q]) h
theorem aw_ifne_b {b : Prop} [Decidable b] {off : Int} {tg : Nat} (hd : decode M.2.1 pc = .ok (.ifCond .ne off, 3)) (ht : (pc : Int) + off = (tg : Int)) (kt : b → sp_AW M d tg L st g Q) (kf : ¬ b → sp_AW M d (pc + 3) L st g Q) : sp_AW M d pc L (v_i (sp_bl b) :: st) g Q := by
  refine aw_if_ne hd ht (by by_cases h : b <;> simp [sp_bl, h]) (fun h => kt ?_) (fun h => kf (fun q => ?_))
  · by_cases q : b
    · exact q
    · exact absurd (by simp [sp_bl, q]) h
  · simp [sp_bl, q] at h
theorem aw_tin {df lo hi : Int} {offs : Array Int} {ln : Nat} {x off : Int} {tg : Nat} (hd : decode M.2.1 pc = .ok (.tableswitch df lo hi offs, ln)) (hr : -2147483648 ≤ x ∧ x < 2147483648) (h1 : lo ≤ x ∧ x ≤ hi) (ho : offs[(x - lo).toNat]? = some off) (ht : (pc : Int) + off = (tg : Int)) (k : sp_AW M d tg L st g Q) : sp_AW M d pc L (v_i x :: st) g Q := by
  intro l D cA ad p e s m args below meth c C H locs ls hP hD hS hl
  exact lv_tableIn C.1 C.2.1 hd (by rw [sp_t hr]; omega) (by rw [sp_t hr]; omega) (by rw [sp_t hr]; exact ho) ht (k l D cA ad p e s m args below meth c C H locs ls hP hD hS hl)
theorem aw_tout {df lo hi : Int} {offs : Array Int} {ln : Nat} {x : Int} {tg : Nat} (hd : decode M.2.1 pc = .ok (.tableswitch df lo hi offs, ln)) (hr : -2147483648 ≤ x ∧ x < 2147483648) (h1 : x < lo ∨ hi < x) (ht : (pc : Int) + df = (tg : Int)) (k : sp_AW M d tg L st g Q) : sp_AW M d pc L (v_i x :: st) g Q := by
  intro l D cA ad p e s m args below meth c C H locs ls hP hD hS hl
  exact lv_tableOut C.1 C.2.1 hd (by rw [sp_t hr]; exact h1) ht (k l D cA ad p e s m args below meth c C H locs ls hP hD hS hl)
theorem sp_inX0 : ∀ w ∈ u_ws RX0 TX0 10, w ∈ sp_T := by decide +kernel
theorem sp_inX1 : ∀ w ∈ u_ws RX1 TX1 3, w ∈ sp_T := by decide +kernel
theorem sp_inX2 : ∀ w ∈ u_ws RX2 TX2 7, w ∈ sp_T := by decide +kernel
theorem sp_inX3 : ∀ w ∈ u_ws RX3 TX3 6, w ∈ sp_T := by decide +kernel
theorem sp_inX4 : ∀ w ∈ u_ws RX4 TX4 4, w ∈ sp_T := by decide +kernel
theorem sp_inX5 : ∀ w ∈ u_ws RX5 TX5 8, w ∈ sp_T := by decide +kernel
theorem sp_inX6 : ∀ w ∈ u_ws RX6 TX6 20, w ∈ sp_T := by decide +kernel
theorem sp_inX {ci : Nat} {C : String} {T : u_T} {N : Nat} (h : sp_cl[ci]? = some (C, T, N)) : ∀ w ∈ u_ws C T N, w ∈ sp_T := by
  match ci, h with
  | 0, h => cases h; exact sp_inX0
  | 1, h => cases h; exact sp_inX1
  | 2, h => cases h; exact sp_inX2
  | 3, h => cases h; exact sp_inX3
  | 4, h => cases h; exact sp_inX4
  | 5, h => cases h; exact sp_inX5
  | 6, h => cases h; exact sp_inX6
  | n + 7, h => simp at h
theorem sp_nmX {ci : Nat} {C : String} {T : u_T} {N : Nat} (h : sp_cl[ci]? = some (C, T, N)) : ∀ a, a < N → ∀ b, b < N → a ≠ b → (T a).2.1 ≠ (T b).2.1 := by
  match ci, h with
  | 0, h => cases h; exact nmX0
  | 1, h => cases h; exact nmX1
  | 2, h => cases h; exact nmX2
  | 3, h => cases h; exact nmX3
  | 4, h => cases h; exact nmX4
  | 5, h => cases h; exact nmX5
  | 6, h => cases h; exact nmX6
  | n + 7, h => simp at h
theorem sp_tyX {ci : Nat} {C : String} {T : u_T} {N : Nat} (h : sp_cl[ci]? = some (C, T, N)) : ∃ ty0 : Nat → FieldType, ∀ k, k < N → parseFieldDescriptor (T k).2.2.1 = some (ty0 k) := by
  match ci, h with
  | 0, h => cases h; exact ⟨_, tyX0_ok⟩
  | 1, h => cases h; exact ⟨_, tyX1_ok⟩
  | 2, h => cases h; exact ⟨_, tyX2_ok⟩
  | 3, h => cases h; exact ⟨_, tyX3_ok⟩
  | 4, h => cases h; exact ⟨_, tyX4_ok⟩
  | 5, h => cases h; exact ⟨_, tyX5_ok⟩
  | 6, h => cases h; exact ⟨_, tyX6_ok⟩
  | n + 7, h => simp at h
/-- a field's link: class number, slot, index -/
def sp_fl (own : String) (ix ci k : Nat) : Prop := ∃ (C : String) (T : u_T) (N : Nat), sp_cl[ci]? = some (C, T, N) ∧ k < N ∧ Cond.fieldLink own ix (T k).1 (T k).2.1 (T k).2.2.1 ∈ sp_T
def sp_fn (own : String) (ix ci k : Nat) : Prop := ∃ (C : String) (T : u_T) (N : Nat) (host : String), sp_cl[ci]? = some (C, T, N) ∧ k < N ∧ Cond.fieldLinkNest own ix (T k).1 (T k).2.1 (T k).2.2.1 host ∈ lw_tbl
def sp_fi (ci k : Nat) (b : Bool) : Prop := ∃ (C : String) (T : u_T) (N : Nat), sp_cl[ci]? = some (C, T, N) ∧ k < N ∧ (T k).2.2.2 = false ∧ (T k).2.2.1 = (if b then "Z" else "I")
theorem aw_getI {o k ix ci : Nat} {kz : Int} {fl : List (Option Nat)} (hd : decode M.2.1 pc = .ok (.getfield ix, 3)) (hf : sp_fl M.1.cls ix ci k) (hs : sp_sh[o]? = some (.inl (ci, fl))) (hkk : fl[k]? = some (none)) (hkz : (k : Int) = kz) (kk : sp_AW M d (pc + 3) L (v_i (g o kz) :: st) g Q) : sp_AW M d pc L (v_r o :: st) g Q := by
  intro l D cA ad p e s m args below meth c C H locs ls hP hD hS hl
  subst hkz
  obtain ⟨Cn, T, N, hc, hk, hw⟩ := hf
  have K := kk l D cA ad p e s m args below meth c C H locs ls hP hD hS hl
  refine va_get (D := D) (C := Cn) (T := T) (N := N) (ci := ci) C.1 C.2.1 C.2.2.2.2.2.2.1 (fun w h => List.mem_cons_of_mem _ (sp_inX hc w h)) C.2.2.2.2.2.1 C.2.2.2.2.2.2.2.1 hP o (sp_Wg g hs) hc k hk (C.2.2.2.2.2.2.1 _ (List.mem_cons_of_mem _ hw)) (fun _ h9 => h9) (v := sp_fv ad g o k (none)) ?_ hd ?_
  · simp [List.getElem?_mapIdx, ‹fl[k]? = _›]
  · exact K
theorem aw_getR {o k ix ci r : Nat} {fl : List (Option Nat)} (hd : decode M.2.1 pc = .ok (.getfield ix, 3)) (hf : sp_fl M.1.cls ix ci k) (hs : sp_sh[o]? = some (.inl (ci, fl))) (hkk : fl[k]? = some (some r)) (kk : sp_AW M d (pc + 3) L (v_r r :: st) g Q) : sp_AW M d pc L (v_r o :: st) g Q := by
  intro l D cA ad p e s m args below meth c C H locs ls hP hD hS hl
  obtain ⟨Cn, T, N, hc, hk, hw⟩ := hf
  have K := kk l D cA ad p e s m args below meth c C H locs ls hP hD hS hl
  refine va_get (D := D) (C := Cn) (T := T) (N := N) (ci := ci) C.1 C.2.1 C.2.2.2.2.2.2.1 (fun w h => List.mem_cons_of_mem _ (sp_inX hc w h)) C.2.2.2.2.2.1 C.2.2.2.2.2.2.2.1 hP o (sp_Wg g hs) hc k hk (C.2.2.2.2.2.2.1 _ (List.mem_cons_of_mem _ hw)) (fun _ h9 => h9) (v := sp_fv ad g o k (some r)) ?_ hd ?_
  · simp [List.getElem?_mapIdx, ‹fl[k]? = _›]
  · exact K
theorem aw_putI {o k ix ci : Nat} {fl : List (Option Nat)} {x kz : Int} (hd : decode M.2.1 pc = .ok (.putfield ix, 3)) (hf : sp_fl M.1.cls ix ci k) (hi : sp_fi ci k false) (hs : sp_sh[o]? = some (.inl (ci, fl))) (hkk : fl[k]? = some none) (hkz : (k : Int) = kz) (kk : sp_AW M d (pc + 3) L st (sp_up g o kz x) Q) : sp_AW M d pc L (v_i x :: v_r o :: st) g Q := by
  intro l D cA ad p e s m args below meth c C H locs ls hP hD hS hl
  subst hkz
  obtain ⟨Cn, T, N, hc, hk, hw⟩ := hf
  obtain ⟨C2, T2, N2, hc2, -, hfin, hde⟩ := hi
  rw [hc] at hc2
  cases hc2
  obtain ⟨ty0, hty⟩ := sp_tyX hc
  have hde2 : parseFieldDescriptor (T k).2.2.1 = some .int := by rw [hde]; decide +kernel
  refine va_put (D := D) (C := Cn) (T := T) (N := N) (ci := ci) (ty := .int) (v := .int (Int32.ofInt x)) C.1 C.2.1 C.2.2.2.2.2.2.1 (fun w h => List.mem_cons_of_mem _ (sp_inX hc w h)) ty0 hty (sp_nmX hc) C.2.2.2.2.2.1 C.2.2.2.2.2.2.2.1 hP hD hS o (sp_Wg g hs) hc k hk (C.2.2.2.2.2.2.1 _ (List.mem_cons_of_mem _ hw)) (fun _ h9 => h9) hfin hde2 rfl rfl ?_ hd ?_
  · have := (List.getElem?_eq_some_iff.mp hkk).1
    simpa using this
  · intro H1 locs1 hP1 hD1 hS1
    rw [sp_WsetF hs hkk] at hP1 hD1
    exact kk l D cA ad p e s m args below meth c C H1 locs1 ls hP1 hD1 hS1 hl
theorem aw_putZ {o k ix ci : Nat} {fl : List (Option Nat)} {x kz : Int} (hd : decode M.2.1 pc = .ok (.putfield ix, 3)) (hf : sp_fl M.1.cls ix ci k) (hi : sp_fi ci k true) (hs : sp_sh[o]? = some (.inl (ci, fl))) (hkk : fl[k]? = some none) (hkz : (k : Int) = kz) (hb : x = 0 ∨ x = 1) (kk : sp_AW M d (pc + 3) L st (sp_up g o kz x) Q) : sp_AW M d pc L (v_i x :: v_r o :: st) g Q := by
  intro l D cA ad p e s m args below meth c C H locs ls hP hD hS hl
  subst hkz
  obtain ⟨Cn, T, N, hc, hk, hw⟩ := hf
  obtain ⟨C2, T2, N2, hc2, -, hfin, hde⟩ := hi
  rw [hc] at hc2
  cases hc2
  obtain ⟨ty0, hty⟩ := sp_tyX hc
  have hde2 : parseFieldDescriptor (T k).2.2.1 = some .boolean := by rw [hde]; decide +kernel
  refine va_put (D := D) (C := Cn) (T := T) (N := N) (ci := ci) (ty := .boolean) (v := .int (Int32.ofInt x)) C.1 C.2.1 C.2.2.2.2.2.2.1 (fun w h => List.mem_cons_of_mem _ (sp_inX hc w h)) ty0 hty (sp_nmX hc) C.2.2.2.2.2.1 C.2.2.2.2.2.2.2.1 hP hD hS o (sp_Wg g hs) hc k hk (C.2.2.2.2.2.2.1 _ (List.mem_cons_of_mem _ hw)) (fun _ h9 => h9) hfin hde2 (by rcases hb with rfl | rfl <;> rfl) (by rcases hb with rfl | rfl <;> rfl) ?_ hd ?_
  · have := (List.getElem?_eq_some_iff.mp hkk).1
    simpa using this
  · intro H1 locs1 hP1 hD1 hS1
    rw [sp_WsetF hs hkk] at hP1 hD1
    exact kk l D cA ad p e s m args below meth c C H1 locs1 ls hP1 hD1 hS1 hl
theorem aw_getIn {o k ix ci : Nat} {kz : Int} {fl : List (Option Nat)} (hd : decode M.2.1 pc = .ok (.getfield ix, 3)) (hf : sp_fn M.1.cls ix ci k) (hs : sp_sh[o]? = some (.inl (ci, fl))) (hkk : fl[k]? = some (none)) (hkz : (k : Int) = kz) (kk : sp_AW M d (pc + 3) L (v_i (g o kz) :: st) g Q) : sp_AW M d pc L (v_r o :: st) g Q := by
  intro l D cA ad p e s m args below meth c C H locs ls hP hD hS hl
  subst hkz
  obtain ⟨Cn, T, N, host, hc, hk, hw⟩ := hf
  have K := kk l D cA ad p e s m args below meth c C H locs ls hP hD hS hl
  refine va_getN (D := D) (C := Cn) (T := T) (N := N) (ci := ci) C.1 C.2.1 C.2.2.2.2.2.2.1 (fun w h => List.mem_cons_of_mem _ (sp_inX hc w h)) C.2.2.2.2.2.1 C.2.2.2.2.2.2.2.1 hP o (sp_Wg g hs) hc k hk (va_Nw.use rfl (C.2.2.2.2.2.2.2.2.1 _ hw rfl)) (fun _ h9 => h9) (v := sp_fv ad g o k (none)) ?_ hd ?_
  · simp [List.getElem?_mapIdx, ‹fl[k]? = _›]
  · exact K
theorem aw_getRn {o k ix ci r : Nat} {fl : List (Option Nat)} (hd : decode M.2.1 pc = .ok (.getfield ix, 3)) (hf : sp_fn M.1.cls ix ci k) (hs : sp_sh[o]? = some (.inl (ci, fl))) (hkk : fl[k]? = some (some r)) (kk : sp_AW M d (pc + 3) L (v_r r :: st) g Q) : sp_AW M d pc L (v_r o :: st) g Q := by
  intro l D cA ad p e s m args below meth c C H locs ls hP hD hS hl
  obtain ⟨Cn, T, N, host, hc, hk, hw⟩ := hf
  have K := kk l D cA ad p e s m args below meth c C H locs ls hP hD hS hl
  refine va_getN (D := D) (C := Cn) (T := T) (N := N) (ci := ci) C.1 C.2.1 C.2.2.2.2.2.2.1 (fun w h => List.mem_cons_of_mem _ (sp_inX hc w h)) C.2.2.2.2.2.1 C.2.2.2.2.2.2.2.1 hP o (sp_Wg g hs) hc k hk (va_Nw.use rfl (C.2.2.2.2.2.2.2.2.1 _ hw rfl)) (fun _ h9 => h9) (v := sp_fv ad g o k (some r)) ?_ hd ?_
  · simp [List.getElem?_mapIdx, ‹fl[k]? = _›]
  · exact K
theorem aw_putIn {o k ix ci : Nat} {fl : List (Option Nat)} {x kz : Int} (hd : decode M.2.1 pc = .ok (.putfield ix, 3)) (hf : sp_fn M.1.cls ix ci k) (hi : sp_fi ci k false) (hs : sp_sh[o]? = some (.inl (ci, fl))) (hkk : fl[k]? = some none) (hkz : (k : Int) = kz) (kk : sp_AW M d (pc + 3) L st (sp_up g o kz x) Q) : sp_AW M d pc L (v_i x :: v_r o :: st) g Q := by
  intro l D cA ad p e s m args below meth c C H locs ls hP hD hS hl
  subst hkz
  obtain ⟨Cn, T, N, host, hc, hk, hw⟩ := hf
  obtain ⟨C2, T2, N2, hc2, -, hfin, hde⟩ := hi
  rw [hc] at hc2
  cases hc2
  obtain ⟨ty0, hty⟩ := sp_tyX hc
  have hde2 : parseFieldDescriptor (T k).2.2.1 = some .int := by rw [hde]; decide +kernel
  refine va_putN (D := D) (C := Cn) (T := T) (N := N) (ci := ci) (ty := .int) (v := .int (Int32.ofInt x)) C.1 C.2.1 C.2.2.2.2.2.2.1 (fun w h => List.mem_cons_of_mem _ (sp_inX hc w h)) ty0 hty (sp_nmX hc) C.2.2.2.2.2.1 C.2.2.2.2.2.2.2.1 hP hD hS o (sp_Wg g hs) hc k hk (va_Nw.use rfl (C.2.2.2.2.2.2.2.2.1 _ hw rfl)) (fun _ h9 => h9) hfin hde2 rfl rfl ?_ hd ?_
  · have := (List.getElem?_eq_some_iff.mp hkk).1
    simpa using this
  · intro H1 locs1 hP1 hD1 hS1
    rw [sp_WsetF hs hkk] at hP1 hD1
    exact kk l D cA ad p e s m args below meth c C H1 locs1 ls hP1 hD1 hS1 hl
theorem aw_putZn {o k ix ci : Nat} {fl : List (Option Nat)} {x kz : Int} (hd : decode M.2.1 pc = .ok (.putfield ix, 3)) (hf : sp_fn M.1.cls ix ci k) (hi : sp_fi ci k true) (hs : sp_sh[o]? = some (.inl (ci, fl))) (hkk : fl[k]? = some none) (hkz : (k : Int) = kz) (hb : x = 0 ∨ x = 1) (kk : sp_AW M d (pc + 3) L st (sp_up g o kz x) Q) : sp_AW M d pc L (v_i x :: v_r o :: st) g Q := by
  intro l D cA ad p e s m args below meth c C H locs ls hP hD hS hl
  subst hkz
  obtain ⟨Cn, T, N, host, hc, hk, hw⟩ := hf
  obtain ⟨C2, T2, N2, hc2, -, hfin, hde⟩ := hi
  rw [hc] at hc2
  cases hc2
  obtain ⟨ty0, hty⟩ := sp_tyX hc
  have hde2 : parseFieldDescriptor (T k).2.2.1 = some .boolean := by rw [hde]; decide +kernel
  refine va_putN (D := D) (C := Cn) (T := T) (N := N) (ci := ci) (ty := .boolean) (v := .int (Int32.ofInt x)) C.1 C.2.1 C.2.2.2.2.2.2.1 (fun w h => List.mem_cons_of_mem _ (sp_inX hc w h)) ty0 hty (sp_nmX hc) C.2.2.2.2.2.1 C.2.2.2.2.2.2.2.1 hP hD hS o (sp_Wg g hs) hc k hk (va_Nw.use rfl (C.2.2.2.2.2.2.2.2.1 _ hw rfl)) (fun _ h9 => h9) hfin hde2 (by rcases hb with rfl | rfl <;> rfl) (by rcases hb with rfl | rfl <;> rfl) ?_ hd ?_
  · have := (List.getElem?_eq_some_iff.mp hkk).1
    simpa using this
  · intro H1 locs1 hP1 hD1 hS1
    rw [sp_WsetF hs hkk] at hP1 hD1
    exact kk l D cA ad p e s m args below meth c C H1 locs1 ls hP1 hD1 hS1 hl
theorem sp_nlt {o : Nat} {s : sp_S} (h : sp_sh[o]? = some s) : ∀ k n f, s = .inr (k, n, f) → n < 2147483648 := by
  have hall : ∀ t ∈ sp_sh, ∀ k n f, t = .inr (k, n, f) → n < 2147483648 := by
    have : sp_sh.all (fun t => match t with | .inr (_, n, _) => decide (n < 2147483648) | _ => true) = true := by decide +kernel
    intro t ht k n f e
    have h1 := List.all_eq_true.mp this t ht
    subst e
    simpa using h1
  exact hall s (List.mem_of_getElem? h)
theorem aw_iald {o n : Nat} {i : Int} (hd : decode M.2.1 pc = .ok (.iaload, 1)) (hs : sp_sh[o]? = some (.inr (0, n, none))) (hi : 0 ≤ i ∧ i < n) (k : sp_AW M d (pc + 1) L (v_i (g o i) :: st) g Q) : sp_AW M d pc L (v_i i :: v_r o :: st) g Q := by
  intro l D cA ad p e s m args below meth c C H locs ls hP hD hS hl
  have K := k l D cA ad p e s m args below meth c C H locs ls hP hD hS hl
  have hn := sp_nlt hs _ _ _ rfl
  refine va_iald (D := D) C.1 C.2.1 C.2.2.2.2.2.2.2.1 hP o 0 (sp_Wg g hs) rfl (sp_in0 hi hn) hd ?_
  rw [sp_cl0 hi hn, Int.toNat_of_nonneg hi.1]
  exact K
theorem aw_bald {o n : Nat} {i : Int} (hd : decode M.2.1 pc = .ok (.baload, 1)) (hs : sp_sh[o]? = some (.inr (1, n, none))) (hi : 0 ≤ i ∧ i < n) (k : sp_AW M d (pc + 1) L (v_i (g o i) :: st) g Q) : sp_AW M d pc L (v_i i :: v_r o :: st) g Q := by
  intro l D cA ad p e s m args below meth c C H locs ls hP hD hS hl
  have K := k l D cA ad p e s m args below meth c C H locs ls hP hD hS hl
  have hn := sp_nlt hs _ _ _ rfl
  refine va_bald (D := D) C.1 C.2.1 C.2.2.2.2.2.2.2.1 hP o 1 (sp_Wg g hs) rfl (sp_in0 hi hn) hd ?_
  rw [sp_cl0 hi hn, Int.toNat_of_nonneg hi.1]
  exact K
theorem aw_zald {o n : Nat} {i : Int} (hd : decode M.2.1 pc = .ok (.baload, 1)) (hs : sp_sh[o]? = some (.inr (2, n, none))) (hi : 0 ≤ i ∧ i < n) (k : sp_AW M d (pc + 1) L (v_i (g o i) :: st) g Q) : sp_AW M d pc L (v_i i :: v_r o :: st) g Q := by
  intro l D cA ad p e s m args below meth c C H locs ls hP hD hS hl
  have K := k l D cA ad p e s m args below meth c C H locs ls hP hD hS hl
  have hn := sp_nlt hs _ _ _ rfl
  refine va_zald (D := D) C.1 C.2.1 C.2.2.2.2.2.2.2.1 hP o 2 (sp_Wg g hs) rfl (sp_in0 hi hn) hd ?_
  rw [sp_cl0 hi hn, Int.toNat_of_nonneg hi.1]
  exact K
theorem aw_cald {o n : Nat} {i : Int} (hd : decode M.2.1 pc = .ok (.caload, 1)) (hs : sp_sh[o]? = some (.inr (3, n, none))) (hi : 0 ≤ i ∧ i < n) (k : sp_AW M d (pc + 1) L (v_i (g o i) :: st) g Q) : sp_AW M d pc L (v_i i :: v_r o :: st) g Q := by
  intro l D cA ad p e s m args below meth c C H locs ls hP hD hS hl
  have K := k l D cA ad p e s m args below meth c C H locs ls hP hD hS hl
  have hn := sp_nlt hs _ _ _ rfl
  refine va_cald (D := D) C.1 C.2.1 C.2.2.2.2.2.2.2.1 hP o 3 (sp_Wg g hs) rfl (sp_in0 hi hn) hd ?_
  rw [sp_cl0 hi hn, Int.toNat_of_nonneg hi.1]
  exact K
theorem aw_iast {o n : Nat} {i x : Int} (hd : decode M.2.1 pc = .ok (.iastore, 1)) (hs : sp_sh[o]? = some (.inr (0, n, none))) (hi : 0 ≤ i ∧ i < n) (k : sp_AW M d (pc + 1) L st (sp_up g o i x) Q) : sp_AW M d pc L (v_i x :: v_i i :: v_r o :: st) g Q := by
  intro l D cA ad p e s m args below meth c C H locs ls hP hD hS hl
  have hn := sp_nlt hs _ _ _ rfl
  refine va_iast (D := D) C.1 C.2.1 C.2.2.2.2.2.2.2.1 hP hD hS o 0 (sp_Wg g hs) rfl (sp_in0 hi hn) hd ?_
  intro H1 locs1 hP1 hD1 hS1
  {
    rw [sp_cl0 hi hn] at hP1 hD1
    rw [sp_WsetA hs hi.1] at hP1 hD1
    exact k l D cA ad p e s m args below meth c C H1 locs1 ls hP1 hD1 hS1 hl }
theorem aw_bast {o n : Nat} {i x : Int} (hd : decode M.2.1 pc = .ok (.bastore, 1)) (hs : sp_sh[o]? = some (.inr (1, n, none))) (hi : 0 ≤ i ∧ i < n) (hb : -128 ≤ x ∧ x < 128) (k : sp_AW M d (pc + 1) L st (sp_up g o i x) Q) : sp_AW M d pc L (v_i x :: v_i i :: v_r o :: st) g Q := by
  intro l D cA ad p e s m args below meth c C H locs ls hP hD hS hl
  have hn := sp_nlt hs _ _ _ rfl
  refine va_bast (D := D) C.1 C.2.1 C.2.2.2.2.2.2.2.1 hP hD hS o 1 (sp_Wg g hs) rfl (sp_in0 hi hn) hd ?_
  intro H1 locs1 hP1 hD1 hS1
  {
    rw [sp_cl0 hi hn] at hP1 hD1
    rw [show vp_nar .byte (Int32.ofInt x) = Int32.ofInt x from by rw [vp_nar_byte]; exact sp_b hb] at hP1 hD1
    rw [sp_WsetA hs hi.1] at hP1 hD1
    exact k l D cA ad p e s m args below meth c C H1 locs1 ls hP1 hD1 hS1 hl }
theorem aw_zast {o n : Nat} {i x : Int} (hd : decode M.2.1 pc = .ok (.bastore, 1)) (hs : sp_sh[o]? = some (.inr (2, n, none))) (hi : 0 ≤ i ∧ i < n) (hb : x = 0 ∨ x = 1) (k : sp_AW M d (pc + 1) L st (sp_up g o i x) Q) : sp_AW M d pc L (v_i x :: v_i i :: v_r o :: st) g Q := by
  intro l D cA ad p e s m args below meth c C H locs ls hP hD hS hl
  have hn := sp_nlt hs _ _ _ rfl
  refine va_zast (D := D) C.1 C.2.1 C.2.2.2.2.2.2.2.1 hP hD hS o 2 (sp_Wg g hs) rfl (sp_in0 hi hn) hd ?_
  intro H1 locs1 hP1 hD1 hS1
  {
    rw [sp_cl0 hi hn] at hP1 hD1
    rw [show vp_nar .boolean (Int32.ofInt x) = Int32.ofInt x from by rcases hb with rfl | rfl <;> rfl] at hP1 hD1
    rw [sp_WsetA hs hi.1] at hP1 hD1
    exact k l D cA ad p e s m args below meth c C H1 locs1 ls hP1 hD1 hS1 hl }
theorem aw_alen {o ki n : Nat} (hd : decode M.2.1 pc = .ok (.arraylength, 1)) (hs : sp_sh[o]? = some (.inr (ki, n, none))) (hki : ki < 5) (k : sp_AW M d (pc + 1) L (v_i n :: st) g Q) : sp_AW M d pc L (v_r o :: st) g Q := by
  intro l D cA ad p e s m args below meth c C H locs ls hP hD hS hl
  have K := k l D cA ad p e s m args below meth c C H locs ls hP hD hS hl
  obtain ⟨ty, hty⟩ : ∃ ty, (sp_ty cA)[ki]? = some (cA ki, ty) := by
    match ki, hki with
    | 0, _ => exact ⟨_, rfl⟩
    | 1, _ => exact ⟨_, rfl⟩
    | 2, _ => exact ⟨_, rfl⟩
    | 3, _ => exact ⟨_, rfl⟩
    | 4, _ => exact ⟨_, rfl⟩
  exact va_alen (D := D) C.1 C.2.1 C.2.2.2.2.2.2.2.1 hP o ki (sp_Wg g hs) hty (v := Int32.ofInt n) rfl hd K
theorem aw_aald {o n : Nat} {f : Nat → Nat} {i : Int} (hd : decode M.2.1 pc = .ok (.aaload, 1)) (hs : sp_sh[o]? = some (.inr (4, n, some f))) (hi : 0 ≤ i ∧ i < n) (k : sp_AW M d (pc + 1) L (v_r (f i.toNat) :: st) g Q) : sp_AW M d pc L (v_i i :: v_r o :: st) g Q := by
  intro l D cA ad p e s m args below meth c C H locs ls hP hD hS hl
  have K := k l D cA ad p e s m args below meth c C H locs ls hP hD hS hl
  have hn := sp_nlt hs _ _ _ rfl
  refine va_aldq (D := D) C.1 C.2.1 C.2.2.2.2.2.2.2.1 hP o 4 (sp_Wg g hs) rfl (sp_in0 hi hn) hd ?_
  rw [sp_cl0 hi hn]
  exact K
theorem aw_gets {k ix : Nat} (hd : decode M.2.1 pc = .ok (.getstatic ix, 3)) (hk : k < 3) (hw : Cond.fieldLink M.1.cls ix RX2 (sp_nm k) "[I" ∈ sp_T) (kk : sp_AW M d (pc + 3) L (v_r (70 + k) :: st) g Q) : sp_AW M d pc L st g Q := by
  intro l D cA ad p e s m args below meth c C H locs ls hP hD hS hl
  exact va_gets C.1 C.2.1 ((C.2.2.2.2.2.2.2.2.2.1 k hk).1) hS C.2.2.2.2.2.1 (C.2.2.2.2.2.2.1 _ (List.mem_cons_of_mem _ hw)) (fun _ h => h) hd (kk l D cA ad p e s m args below meth c C H locs ls hP hD hS hl)
theorem aw_xald {k : Nat} {i : Int} (hd : decode M.2.1 pc = .ok (.iaload, 1)) (hk : k < 3) (hi : 0 ≤ i ∧ i < (sp_num k).length) (kk : sp_AW M d (pc + 1) L (v_i ((sp_num k).getD i.toNat 0) :: st) g Q) : sp_AW M d pc L (v_i i :: v_r (70 + k) :: st) g Q := by
  intro l D cA ad p e s m args below meth c C H locs ls hP hD hS hl
  have hn : (sp_num k).length < 2147483648 := by
    match k, hk with
    | 0, _ => decide
    | 1, _ => decide
    | 2, _ => decide
  refine va_ti C.1 C.2.1 ((C.2.2.2.2.2.2.2.2.2.1 k hk).2) hS (sp_in0 hi hn) (v := .int (Int32.ofInt ((sp_num k).getD i.toNat 0))) (by rw [sp_cl0 hi hn]) hd (kk l D cA ad p e s m args below meth c C H locs ls hP hD hS hl)
theorem aw_ldcS {i : Nat} (hM : M.1.cls = RX2) (hd : decode M.2.1 pc = .ok (.ldc (sp_sx i), 2)) (hi : i < 5) (kk : sp_AW M d (pc + 2) L (v_r (80 + i) :: st) g Q) : sp_AW M d pc L st g Q := by
  intro l D cA ad p e s m args below meth c C H locs ls hP hD hS hl
  exact va_ldcS C.1 C.2.1 (hM ▸ C.2.2.2.2.2.1) (C.2.2.2.2.2.2.2.2.2.2.1 i hi) hd (kk l D cA ad p e s m args below meth c C H locs ls hP hD hS hl)
theorem sp_fin {D : va_G} {cA : Nat → ClassId} {ad : Nat → Nat} {s t : State} {H : Heap} {locs : List Loc} {a : Array Value} {v : Option sp_V} (hP : va_P D sp_cl (sp_W ad cA g) H) (hS : va_S (sp_A ad) s.heap H locs) (hq : Q v g) (ht : t.heap = H) : sp_Q D cA ad Q a s (.returned (v.map (sp_cv ad))) t := ⟨⟨v, g, rfl, hq, by rw [ht]; exact hP⟩, hS.F ht⟩
theorem aw_iret {x : Int} (hd : decode M.2.1 pc = .ok (.ireturn, 1)) (hr : M.2.2.2 = some .int) (hq : Q (some (v_i x)) g) : sp_AW M d pc L [v_i x] g Q := by
  intro l D cA ad p e s m args below meth c C H locs ls hP hD hS hl
  exact W.iret C.1 C.2.1 (C.2.2.2.1.trans hr) (fun t ht _ => sp_fin (v := some (v_i x)) hP hS hq ht) hS.2.2 hd (hlocks := C.2.2.2.2.1)
theorem aw_zret {x : Int} (hd : decode M.2.1 pc = .ok (.ireturn, 1)) (hr : M.2.2.2 = some .boolean) (hb : x = 0 ∨ x = 1) (hq : Q (some (v_i x)) g) : sp_AW M d pc L [v_i x] g Q := by
  intro l D cA ad p e s m args below meth c C H locs ls hP hD hS hl
  exact W.zret C.1 C.2.1 (C.2.2.2.1.trans hr) (by rcases hb with rfl | rfl <;> rfl) (fun t ht _ => sp_fin (v := some (v_i x)) hP hS hq ht) hS.2.2 hd (hlocks := C.2.2.2.2.1)
theorem aw_lret {x : Int} (hd : decode M.2.1 pc = .ok (.lreturn, 1)) (hr : M.2.2.2 = some .long) (hq : Q (some (v_l x)) g) : sp_AW M d pc L [v_l x] g Q := by
  intro l D cA ad p e s m args below meth c C H locs ls hP hD hS hl
  exact W.lret C.1 C.2.1 (C.2.2.2.1.trans hr) (fun t ht _ => sp_fin (v := some (v_l x)) hP hS hq ht) hS.2.2 hd (hlocks := C.2.2.2.2.1)
theorem aw_vret (hd : decode M.2.1 pc = .ok (.return_, 1)) (hr : M.2.2.2 = none) (hq : Q none g) : sp_AW M d pc L [] g Q := by
  intro l D cA ad p e s m args below meth c C H locs ls hP hD hS hl
  exact W.vret C.1 C.2.1 (C.2.2.2.1.trans hr) (fun t ht _ => sp_fin (v := none) hP hS hq ht) hS.2.2 hd (hlocks := C.2.2.2.2.1)
theorem aw_aret {x : Nat} {cn : String} (hd : decode M.2.1 pc = .ok (.areturn, 1)) (hr : M.2.2.2 = some (.object cn)) (hq : Q (some (v_r x)) g) : sp_AW M d pc L [v_r x] g Q := by
  intro l D cA ad p e s m args below meth c C H locs ls hP hD hS hl
  exact W.aret C.1 C.2.1 (C.2.2.2.1.trans hr) (Or.inl ⟨_, rfl⟩) (Or.inr ⟨_, rfl⟩) (fun t ht _ => sp_fin (v := some (v_r x)) hP hS hq ht) hS.2.2 hd (hlocks := C.2.2.2.2.1)
/-- what a method is, by the tables -/
def sp_okS (M : sp_M) (n : Nat) : Prop := Cond.code M.1 M.2.1 M.2.2.1 M.2.2.2 ∈ sp_T ∧ Cond.initialized M.1.cls ∈ sp_T ∧ Cond.static M.1 ∈ sp_T ∧ (M.1.cls ≠ "java/lang/invoke/MethodHandle" ∧ M.1.cls ≠ "java/lang/invoke/VarHandle") ∧ (parseMethodDescriptor M.1.desc).map (fun q => q.parameters.length) = some n ∧ M.2.2.1 ≤ 19
def sp_okV (M : sp_M) (n : Nat) : Prop := Cond.code M.1 M.2.1 M.2.2.1 M.2.2.2 ∈ sp_T ∧ Cond.initialized M.1.cls ∈ sp_T ∧ (Cond.instanceMethod M.1 ∈ sp_T ∧ Cond.selects M.1.cls M.1 M.1 ∈ sp_T) ∧ (M.1.cls ≠ "java/lang/invoke/MethodHandle" ∧ M.1.cls ≠ "java/lang/invoke/VarHandle") ∧ (parseMethodDescriptor M.1.desc).map (fun q => q.parameters.length) = some n ∧ M.2.2.1 ≤ 19
theorem sp_good {M M2 : sp_M} (h : Cond.code M2.1 M2.2.1 M2.2.2.1 M2.2.2.2 ∈ sp_T) : GoodIn (sp_ws M) (sp_ws M2) := by
  intro w hw
  have h1 : w ∈ sp_T := by
    rcases List.mem_cons.mp hw with e | e
    · rw [e]; exact h
    · exact e
  exact ⟨List.mem_cons_of_mem _ h1, good_of_word (List.mem_filter.mp h1).2⟩
theorem sp_blind {D : va_G} {cA : Nat → ClassId} {ad : Nat → Nat} {as : List sp_V} : FrameBlind (va_Pc (as.map (sp_cv ad)) (sp_Wd D cA ad g)) := by
  intro a U gg mk q
  obtain ⟨q0, qP, qK, qD, qN, qE⟩ := q
  exact ⟨q0, qP, va_K.moved (u := U) (U := U.calling gg mk a) (Vm.Alike.refl U.vm) qK, qD, sp_Nst.same (s := U) (U := U.calling gg mk a) rfl qN, sp_Ext.same (s := U) (U := U.calling gg mk a) rfl rfl qE⟩
theorem sp_pre {D : va_G} {cA : Nat → ClassId} {ad : Nat → Nat} {p : Program} {l : Launch} {s U : State} {m : MethodId} {args : Array Value} {meth : Method} {c : Code} {H : Heap} {locs : List Loc} (C : sp_Cx l D cA ad M p s m args meth c) (hP : va_P D sp_cl (sp_W ad cA g) H) (hD : va_D (sp_A ad) (sp_W ad cA g)) (hS : va_S (sp_A ad) s.heap H locs) (hU : U.heap = H) (hW : s.WarmedH U.vm) : sp_Wd D cA ad g U :=
  ⟨by rw [hU]; exact hP, va_K.moved hW.alike C.2.2.2.2.2.2.2.1, hD, sp_Nst.warm hW C.2.2.2.2.2.2.2.2.1, sp_Ext.mv hW (fun a h1 h2 => by rw [hU]; exact hS.2.1 a h1 h2) C.2.2.2.2.2.2.2.2.2⟩
/-- behind a call -/
theorem sp_back {D : va_G} {cA : Nat → ClassId} {ad : Nat → Nat} {p : Program} {l : Launch} {e : Env} {s : State} {m : MethodId} {args : Array Value} {below : List Frame} {meth : Method} {c : Code} {H : Heap} {locs : List Loc} {ls : Array Slot} {stv : List Value} {a : Array Value} (C : sp_Cx l D cA ad M p s m args meth c) (hD : va_D (sp_A ad) (sp_W ad cA g)) (hS : va_S (sp_A ad) s.heap H locs) (hl : lv_has ls M.2.2.1 (sp_lv ad 0 L))
    (hr : va_Run p l e (sp_rm d) s m args below meth c H locs 0 0 0 0 (F0 m pc ls stv) (st.map (sp_cv ad)) (sp_Q D cA ad (fun v g2 => sp_AW M d (pc + 3) L (sp_psh v st) g2 Q) a) (sp_A ad)) : W p l e (sp_rm d) s m args below meth c H locs 0 0 (MQ below (sp_Q D cA ad Q) args s 0 0 (sp_A ad)) (F0 m pc ls stv) := by
  intro T hT X
  obtain ⟨v, st₀, t, T', L2, h0, X', hL, e1, e2, ⟨⟨v2, g2, hv, hk, hP2⟩, hz, hkk⟩, sg⟩ := hr T hT X
  cases hv
  rw [h0] at hz hkk
  have hS2 : va_S (sp_A ad) s.heap T'.heap (locs ++ L2) := by
    refine ⟨Nat.le_trans hS.1 (by rw [e1]; exact hz), fun q h1 h2 => ?_, fun q hq => ?_⟩
    · rw [e1, hkk q (Nat.lt_of_lt_of_le h1 hS.1) h2]
      exact hS.2.1 q h1 h2
    · rcases List.mem_append.mp hq with h | h
      · exact hS.2.2 q h
      · exact hL q h
  obtain ⟨t2, a1, b1⟩ := hk l D cA ad p e s m args below meth c C T'.heap (locs ++ L2) ls (by rw [e1]; exact hP2) (sp_D g2 hD) hS2 hl T' rfl X'
  refine ⟨t2, sg t2 ?_, b1⟩
  cases v2 with
  | none => exact a1
  | some v3 => exact a1
theorem sp_room {d n : Nat} (h : n ≤ 19) : (sp_rm d).frames + 1 ≤ (sp_rm (d + 1)).frames ∧ 8 + (n + 11) + (sp_rm d).locals ≤ (sp_rm (d + 1)).locals := by
  simp only [sp_rm]
  omega
theorem sp_cat {ad : Nat → Nat} : ∀ {st : List sp_V}, (st.map (fun v => if sp_c1 v = true then 1 else 2)).sum ≤ 8 → ((st.map (sp_cv ad)).map fun v => v.category).sum ≤ 8 := by
  intro st h
  have e : ((st.map (sp_cv ad)).map fun v => v.category) = st.map (fun v => if sp_c1 v = true then 1 else 2) := by
    rw [List.map_map]
    apply List.map_congr_left
    intro v _
    match v with
    | .inl x => rfl
    | .inr (.inl x) => rfl
    | .inr (.inr k) => rfl
  rw [e]
  exact h
theorem aw_callS {M2 : sp_M} {as stk : List sp_V} {n ix : Nat} (hd : decode M.2.1 pc = .ok (.invokestatic ix, 3)) (ho : sp_okS M2 n) (hw : Cond.methodLink M.1.cls ix M2.1 ∈ sp_T) (hn : as.length = n) (hstk : stk = as.reverse ++ st) (hc : (st.map (fun v => if sp_c1 v = true then 1 else 2)).sum ≤ 8)
    (k : sp_Met d M2 as g (fun v g2 => sp_AW M (d + 1) (pc + 3) L (sp_psh v st) g2 Q)) : sp_AW M (d + 1) pc L stk g Q := by
  intro l D cA ad p e s m args below meth c C H locs ls hP hD hS hl
  subst hstk
  obtain ⟨o1, o2, o3, o4, o5, o6⟩ := ho
  have hts := C.2.2.2.2.2.2.1
  have cb := callB_of (R := sp_rm (d + 1)) (rm := sp_rm d) (mc := 0) (ms := 0) n hts (sp_good o1) rfl rfl rfl (hts _ (List.mem_cons_of_mem _ o2)) (hts _ (List.mem_cons_of_mem _ hw)) ⟨o4.1, o4.2, o5⟩ (sp_room o6)
  refine sp_back C hD hS hl (va_runS (As := as.map (sp_cv ad)) ⟨C.1, C.2.1, C.2.2.1, C.2.2.2.2.2.1, hts⟩ (k l D cA ad) ⟨cb, hts _ (List.mem_cons_of_mem _ o3)⟩ ⟨sp_blind, fun U hU hW => ⟨rfl, sp_pre C hP hD hS hU hW⟩⟩ rfl (by rw [List.length_map]; exact hn) hl.1 (by simp [List.map_append, List.map_reverse]) (lv_room (sp_cat hc)) hd ⟨Nat.le_refl _, Nat.le_refl _⟩)
theorem aw_callSn {M2 : sp_M} {as stk : List sp_V} {n ix : Nat} {host : String} (hd : decode M.2.1 pc = .ok (.invokestatic ix, 3)) (ho : sp_okS M2 n) (hw : Cond.methodLinkNest M.1.cls ix M2.1 host ∈ lw_tbl) (hn : as.length = n) (hstk : stk = as.reverse ++ st) (hc : (st.map (fun v => if sp_c1 v = true then 1 else 2)).sum ≤ 8)
    (k : sp_Met d M2 as g (fun v g2 => sp_AW M (d + 1) (pc + 3) L (sp_psh v st) g2 Q)) : sp_AW M (d + 1) pc L stk g Q := by
  intro l D cA ad p e s m args below meth c C H locs ls hP hD hS hl
  subst hstk
  obtain ⟨o1, o2, o3, o4, o5, o6⟩ := ho
  have hts := C.2.2.2.2.2.2.1
  have cb := va_cnB (R := sp_rm (d + 1)) (rm := sp_rm d) (mc := 0) (ms := 0) n hts (sp_good o1) rfl rfl rfl (C.2.2.2.2.2.2.2.2.1 _ hw rfl) (hts _ (List.mem_cons_of_mem _ o2)) ⟨o4.1, o4.2, o5⟩ (sp_room o6)
  refine sp_back C hD hS hl (va_runSN (As := as.map (sp_cv ad)) ⟨C.1, C.2.1, C.2.2.1, C.2.2.2.2.2.1, hts⟩ (k l D cA ad) ⟨cb, hts _ (List.mem_cons_of_mem _ o3), trivial⟩ ⟨sp_blind, fun U hU hW => ⟨rfl, sp_pre C hP hD hS hU hW⟩⟩ rfl (by rw [List.length_map]; exact hn) hl.1 (by simp [List.map_append, List.map_reverse]) (lv_room (sp_cat hc)) hd ⟨Nat.le_refl _, Nat.le_refl _⟩)
theorem aw_callV {M2 : sp_M} {o : Nat} {as stk : List sp_V} {n ix ci N : Nat} {T : u_T} {fl : List (Option Nat)} (hd : decode M.2.1 pc = .ok (.invokevirtual ix, 3)) (ho : sp_okV M2 n) (hw : Cond.methodLink M.1.cls ix M2.1 ∈ sp_T) (hs : sp_sh[o]? = some (.inl (ci, fl))) (hci : sp_cl[ci]? = some (M2.1.cls, T, N)) (hn : as.length = n) (hstk : stk = as.reverse ++ v_r o :: st) (hc : (st.map (fun v => if sp_c1 v = true then 1 else 2)).sum ≤ 8)
    (k : sp_Met d M2 (v_r o :: as) g (fun v g2 => sp_AW M (d + 1) (pc + 3) L (sp_psh v st) g2 Q)) : sp_AW M (d + 1) pc L stk g Q := by
  intro l D cA ad p e s m args below meth c C H locs ls hP hD hS hl
  subst hstk
  obtain ⟨o1, o2, o3, o4, o5, o6⟩ := ho
  have hts := C.2.2.2.2.2.2.1
  have cb := callB_of (R := sp_rm (d + 1)) (rm := sp_rm d) (mc := 0) (ms := 0) n hts (sp_good o1) rfl rfl rfl (hts _ (List.mem_cons_of_mem _ o2)) (hts _ (List.mem_cons_of_mem _ hw)) ⟨o4.1, o4.2, o5⟩ (sp_room o6)
  have hrec := va_recv (D := D) (cl := sp_cl) C.2.2.2.2.2.2.2.1 hP (ci := ci) (q0 := o) (a := ad o) (q := (M2.1.cls, T, N)) (fs := fl.mapIdx (sp_fv ad g o)) hci (sp_Wg g hs)
  refine sp_back C hD hS hl (va_runV (C := M2.1.cls) (b := ad o) (As := as.map (sp_cv ad)) ⟨C.1, C.2.1, C.2.2.1, C.2.2.2.2.2.1, hts⟩ (k l D cA ad) ⟨cb, hts _ (List.mem_cons_of_mem _ o3.1), hts _ (List.mem_cons_of_mem _ o3.2)⟩ ⟨sp_blind, hrec, fun U hU hW => ⟨rfl, sp_pre C hP hD hS hU hW⟩⟩ rfl (by rw [List.length_map]; exact hn) hl.1 (by simp [List.map_append, List.map_reverse, sp_cv]) (lv_room (sp_cat hc)) hd ⟨Nat.le_refl _, Nat.le_refl _⟩)
end RULES
