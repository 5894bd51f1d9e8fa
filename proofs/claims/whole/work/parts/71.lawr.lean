/-- what holds all along the law's loop -/
def lwC (p : Program) (s : State) (m : MethodId) (meth : Method) (c : Code) (b L : Nat) (xs : Nat → Int32) (D : va_G) (cA : Nat → ClassId) (ad : Nat → Nat) : Prop :=
  lw_At p s m meth c b L xs ∧ L ≤ 2560 ∧ va_K D sp_cl (sp_ty cA) s ∧ sp_Nst s ∧ sp_Ext ad s ∧ (∀ o, o < 67 → s.heap.size ≤ ad o) ∧ (∀ g, va_D (sp_A ad) (sp_W ad cA g)) ∧ ad 90 = b
def lwW (L : Nat) (xs : Nat → Int32) (pc : Nat) (L0 : List (Option sp_V)) (st : List sp_V) (g : sp_G) : Prop :=
  ∀ (p : Program) (l : Launch) (e : Env) (s : State) (m : MethodId) (b : Nat) (below : List Frame) (meth : Method) (c : Code) (D : va_G) (cA : Nat → ClassId) (ad : Nat → Nat), lwC p s m meth c b L xs D cA ad →
  ∀ (H : Heap) (locs : List Loc) (ls : Array Slot), va_P D sp_cl (sp_W ad cA g) H → va_S (fun q => s.heap.size ≤ q) s.heap H locs → lv_has ls 4 (sp_lv ad 0 L0) →
  W p l e room_1 s m #[Value.ref b] below meth c H locs 600000 7302250 (lw_Z below #[Value.ref b] s) (F0 m pc ls (st.map (sp_cv ad)))
section LAWRULES
variable {L : Nat} {xs : Nat → Int32} {pc : Nat} {L0 L2 : List (Option sp_V)} {st : List sp_V} {g : sp_G}
theorem lw_iconst {n : Int} (hd : decode code pc = .ok (.iconst n, 1)) (k : lwW L xs (pc + 1) L0 (v_i n :: st) g) : lwW L xs pc L0 st g := by
  intro p l e s m b below meth c D cA ad C H locs ls hP hS hl
  have K := k p l e s m b below meth c D cA ad C H locs ls hP hS hl
  exact lv_iconst (v := Int32.ofInt n) C.1.1 C.1.2.1 hd rfl K
theorem lw_bipush {n : Int} (hd : decode code pc = .ok (.bipush n, 2)) (hn : (Int8.ofInt n).toInt32 = Int32.ofInt n) (k : lwW L xs (pc + 2) L0 (v_i n :: st) g) : lwW L xs pc L0 st g := by
  intro p l e s m b below meth c D cA ad C H locs ls hP hS hl
  have K := k p l e s m b below meth c D cA ad C H locs ls hP hS hl
  exact lv_bipush (v := Int32.ofInt n) C.1.1 C.1.2.1 hd hn K
theorem lw_iload {j : Fin 4} {x : Int} (hd : decode code pc = .ok (.iload_n j, 1)) (h : L0[(j : Nat)]? = some (some (v_i x))) (k : lwW L xs (pc + 1) L0 (v_i x :: st) g) : lwW L xs pc L0 st g := by
  intro p l e s m b below meth c D cA ad C H locs ls hP hS hl
  have K := k p l e s m b below meth c D cA ad C H locs ls hP hS hl
  exact lv_iload_n C.1.1 C.1.2.1 hd rfl (sp_ld hl h) K
theorem lw_aload {j : Fin 4} {x : Nat} (hd : decode code pc = .ok (.aload_n j, 1)) (h : L0[(j : Nat)]? = some (some (v_r x))) (k : lwW L xs (pc + 1) L0 (v_r x :: st) g) : lwW L xs pc L0 st g := by
  intro p l e s m b below meth c D cA ad C H locs ls hP hS hl
  have K := k p l e s m b below meth c D cA ad C H locs ls hP hS hl
  exact lv_aload_n C.1.1 C.1.2.1 hd rfl (sp_ld hl h) K
theorem lw_iadd {x y : Int} (hd : decode code pc = .ok (.iadd, 1)) (k : lwW L xs (pc + 1) L0 (v_i (x + y) :: st) g) : lwW L xs pc L0 (v_i y :: v_i x :: st) g := by
  intro p l e s m b below meth c D cA ad C H locs ls hP hS hl
  have K := k p l e s m b below meth c D cA ad C H locs ls hP hS hl
  refine lv_iadd C.1.1 C.1.2.1 hd ?_
  rw [← Int32.ofInt_add]
  exact K
theorem lw_isub {x y : Int} (hd : decode code pc = .ok (.isub, 1)) (k : lwW L xs (pc + 1) L0 (v_i (x - y) :: st) g) : lwW L xs pc L0 (v_i y :: v_i x :: st) g := by
  intro p l e s m b below meth c D cA ad C H locs ls hP hS hl
  have K := k p l e s m b below meth c D cA ad C H locs ls hP hS hl
  refine lv_isub C.1.1 C.1.2.1 hd ?_
  rw [← Int32.ofInt_sub]
  exact K
theorem lw_iand {x y : Int} (hd : decode code pc = .ok (.iand, 1)) (k : lwW L xs (pc + 1) L0 (v_i (sp_and x y) :: st) g) : lwW L xs pc L0 (v_i y :: v_i x :: st) g := by
  intro p l e s m b below meth c D cA ad C H locs ls hP hS hl
  have K := k p l e s m b below meth c D cA ad C H locs ls hP hS hl
  refine lv_iand C.1.1 C.1.2.1 hd ?_
  simp only [List.map_cons, sp_cv, sp_and, Int32.ofInt_toInt] at K
  exact K
theorem lw_goto {off : Int} {tg : Nat} (hd : decode code pc = .ok (.goto off, 3)) (ht : (pc : Int) + off = (tg : Int)) (k : lwW L xs tg L0 st g) : lwW L xs pc L0 st g := by
  intro p l e s m b below meth c D cA ad C H locs ls hP hS hl
  have K := k p l e s m b below meth c D cA ad C H locs ls hP hS hl
  exact lv_goto C.1.1 C.1.2.1 hd ht K
theorem lw_iinc {i : Nat} {n x : Int} (hd : decode code pc = .ok (.iinc i n, 3)) (h : L0[i]? = some (some (v_i x))) (hn : i < 4) (hp : sp_pl L0 i = true) (hL : L0.set i (some (v_i (x + n))) = L2) (k : lwW L xs (pc + 3) L2 st g) : lwW L xs pc L0 st g := by
  intro p l e s m b below meth c D cA ad C H locs ls hP hS hl
  subst hL
  obtain ⟨k0, hk0⟩ := List.getElem?_of_mem (sp_lv_mem.mpr ⟨i, v_i x, h, rfl⟩ : ((0 + i, sp_cv ad (v_i x)) : Nat × Value) ∈ sp_lv ad 0 L0)
  rw [Nat.zero_add] at hk0
  exact lv_iinc (k := k0) (v := Int32.ofInt (x + n)) C.1.1 C.1.2.1 hd hl hk0 (Int32.ofInt_add x n).symm hn rfl (fun ls2 h2 => k p l e s m b below meth c D cA ad C H locs ls2 hP hS (sp_sto1 (v := v_i (x + n)) hp h2))
theorem lw_gt {x y : Int} {off : Int} {tg : Nat} (hd : decode code pc = .ok (.if_icmp .gt off, 3)) (ht : (pc : Int) + off = (tg : Int)) (hr : (-2147483648 ≤ x ∧ x < 2147483648) ∧ (-2147483648 ≤ y ∧ y < 2147483648)) (kt : y < x → lwW L xs tg L0 st g) (kf : ¬ (y < x) → lwW L xs (pc + 3) L0 st g) : lwW L xs pc L0 (v_i y :: v_i x :: st) g := by
  intro p l e s m b below meth c D cA ad C H locs ls hP hS hl
  exact lv_icmp_gt C.1.1 C.1.2.1 hd ht (fun h => kt ((sp_lt (x := y) (y := x) ⟨hr.2, hr.1⟩).mp h) p l e s m b below meth c D cA ad C H locs ls hP hS hl) (fun h => kf (fun q => h ((sp_lt (x := y) (y := x) ⟨hr.2, hr.1⟩).mpr q)) p l e s m b below meth c D cA ad C H locs ls hP hS hl)
theorem lw_eq {x : Int} {off : Int} {tg : Nat} (hd : decode code pc = .ok (.if_icmp .eq off, 3)) (ht : (pc : Int) + off = (tg : Int)) (k : lwW L xs tg L0 st g) : lwW L xs pc L0 (v_i x :: v_i x :: st) g := by
  intro p l e s m b below meth c D cA ad C H locs ls hP hS hl
  exact lv_icmp_eq C.1.1 C.1.2.1 hd ht (fun _ => k p l e s m b below meth c D cA ad C H locs ls hP hS hl) (fun h => absurd rfl h)
theorem lw_lcmp {x : Int} (hd : decode code pc = .ok (.lcmp, 1)) (k : lwW L xs (pc + 1) L0 (v_i 0 :: st) g) : lwW L xs pc L0 (v_l x :: v_l x :: st) g := by
  intro p l e s m b below meth c D cA ad C H locs ls hP hS hl
  have K := k p l e s m b below meth c D cA ad C H locs ls hP hS hl
  refine W.lcmp C.1.1 C.1.2.1 hd ?_
  have e9 : lg_cmp (Int64.ofInt x) (Int64.ofInt x) = 0 := by simp [lg_cmp]
  rw [e9]
  exact K
theorem lw_ifz {off : Int} {tg : Nat} (hd : decode code pc = .ok (.ifCond .eq off, 3)) (ht : (pc : Int) + off = (tg : Int)) (k : lwW L xs tg L0 st g) : lwW L xs pc L0 (v_i 0 :: st) g := by
  intro p l e s m b below meth c D cA ad C H locs ls hP hS hl
  exact lv_if_eq C.1.1 C.1.2.1 hd ht (fun _ => k p l e s m b below meth c D cA ad C H locs ls hP hS hl) (fun h => absurd rfl h)
theorem lw_len (hd : decode code pc = .ok (.arraylength, 1)) (k : lwW L xs (pc + 1) L0 (v_i L :: st) g) : lwW L xs pc L0 (v_r 90 :: st) g := by
  intro p l e s m b below meth c D cA ad C H locs ls hP hS hl
  have K := k p l e s m b below meth c D cA ad C H locs ls hP hS hl
  obtain ⟨-, -, -, -, -, -, hX, hbl, -, -⟩ := C.1
  have hb : ad 90 = b := C.2.2.2.2.2.2.2
  have e9 : Int32.ofInt (L : Int) = Int32.ofNat L := Int32.ofInt_eq_ofNat
  show W p l e room_1 s m #[Value.ref b] below meth c H locs 600000 7302250 (lw_Z below #[Value.ref b] s) (F0 m pc ls (.ref (ad 90) :: st.map (sp_cv ad)))
  rw [hb]
  refine va_slen C.1.1 C.1.2.1 hX hbl (Nat.not_le.mpr hbl) hS hd ?_
  rw [← e9]
  exact K
theorem lw_sld {i : Int} (hd : decode code pc = .ok (.iaload, 1)) (hi : 0 ≤ i ∧ i < L) (k : lwW L xs (pc + 1) L0 (v_i (xs i.toNat).toInt :: st) g) : lwW L xs pc L0 (v_i i :: v_r 90 :: st) g := by
  intro p l e s m b below meth c D cA ad C H locs ls hP hS hl
  have K := k p l e s m b below meth c D cA ad C H locs ls hP hS hl
  obtain ⟨-, -, -, -, -, -, hX, hbl, -, -⟩ := C.1
  have hb : ad 90 = b := C.2.2.2.2.2.2.2
  have hL : L ≤ 2560 := C.2.1
  show W p l e room_1 s m #[Value.ref b] below meth c H locs 600000 7302250 (lw_Z below #[Value.ref b] s) (F0 m pc ls (.int (Int32.ofInt i) :: .ref (ad 90) :: st.map (sp_cv ad)))
  rw [hb]
  refine va_sld C.1.1 C.1.2.1 hX hbl (Nat.not_le.mpr hbl) hS (sp_in0 hi (by omega)) hd ?_
  rw [sp_cl0 hi (by omega)]
  have K : W p l e room_1 s m #[Value.ref b] below meth c H locs 600000 7302250 (lw_Z below #[Value.ref b] s) (F0 m (pc + 1) ls (.int (Int32.ofInt (xs i.toNat).toInt) :: st.map (sp_cv ad))) := K
  rw [Int32.ofInt_toInt] at K
  exact K
theorem lw_swO {x : Int} {dflt lo hi : Int} {offs : Array Int} {len tg : Nat} (hd : decode code pc = .ok (.tableswitch dflt lo hi offs, len)) (hr : -2147483648 ≤ x ∧ x < 2147483648) (h : x < lo ∨ hi < x) (ht : (pc : Int) + dflt = (tg : Int)) (k : lwW L xs tg L0 st g) : lwW L xs pc L0 (v_i x :: st) g := by
  intro p l e s m b below meth c D cA ad C H locs ls hP hS hl
  exact lv_tableOut C.1.1 C.1.2.1 hd (by rw [sp_t hr]; exact h) ht (k p l e s m b below meth c D cA ad C H locs ls hP hS hl)
theorem lw_swI {x : Int} {dflt lo hi off : Int} {offs : Array Int} {len tg : Nat} (hd : decode code pc = .ok (.tableswitch dflt lo hi offs, len)) (hr : -2147483648 ≤ x ∧ x < 2147483648) (h1 : ¬ x < lo) (h2 : ¬ hi < x) (ho : offs[(x - lo).toNat]? = some off) (ht : (pc : Int) + off = (tg : Int)) (k : lwW L xs tg L0 st g) : lwW L xs pc L0 (v_i x :: st) g := by
  intro p l e s m b below meth c D cA ad C H locs ls hP hS hl
  exact lv_tableIn C.1.1 C.1.2.1 hd (by rw [sp_t hr]; exact h1) (by rw [sp_t hr]; exact h2) (by rw [sp_t hr]; exact ho) ht (k p l e s m b below meth c D cA ad C H locs ls hP hS hl)
theorem lw_end (hd : decode code pc = .ok (.ireturn, 1)) : lwW L xs pc L0 [v_i 1] g := by
  intro p l e s m b below meth c D cA ad C H locs ls hP hS hl
  exact va_forget (fun q hq => hS.2.2 q hq) (lw_ret C.1.1 C.1.2.1 C.1.2.2.1 C.1.2.2.2.2.2.2.2.2.1 hd)
theorem lw_good {M2 : sp_M} (h : Cond.code M2.1 M2.2.1 M2.2.2.1 M2.2.2.2 ∈ sp_T) : GoodIn sp_T (sp_ws M2) := by
  intro w hw
  have h1 : w ∈ sp_T := by
    rcases List.mem_cons.mp hw with e | e
    · rw [e]; exact h
    · exact e
  exact ⟨h1, good_of_word (List.mem_filter.mp h1).2⟩
theorem lw_call {M2 : sp_M} {o : Nat} {as stk : List sp_V} {n ix ci N : Nat} {T : u_T} {fl : List (Option Nat)} (hd : decode code pc = .ok (.invokevirtual ix, 3)) (ho : sp_okV M2 n) (hw : Cond.methodLink RL ix M2.1 ∈ sp_T) (hs : sp_sh[o]? = some (.inl (ci, fl))) (hci : sp_cl[ci]? = some (M2.1.cls, T, N)) (hn : as.length = n) (hstk : stk = as.reverse ++ v_r o :: st) (hc : (st.map (fun v => if sp_c1 v = true then 1 else 2)).sum ≤ 8)
    (k : sp_Met 8 M2 (v_r o :: as) g (fun v g2 => lwW L xs (pc + 3) L0 (sp_psh v st) g2)) : lwW L xs pc L0 stk g := by
  intro p l e s m b below meth c D cA ad C H locs ls hP hS hl
  subst hstk
  obtain ⟨o1, o2, o3, o4, o5, o6⟩ := ho
  obtain ⟨hx, hcode, hret, hml, hown, hts0, hX, hbl, hlk, hgv⟩ := C.1
  obtain ⟨-, hL, hK, hN, hE, hlo, hD, hb9⟩ := id C
  have hts := lw_T hts0
  have cb := callB_of (R := room_1) (own := RL) (rm := sp_rm 8) (mc := 0) (ms := 0) n hts (lw_good o1) rfl rfl rfl (hts _ o2) (hts _ hw) ⟨o4.1, o4.2, o5⟩ ⟨Nat.le_of_ble_eq_true rfl, by show 8 + (M2.2.2.1 + 11) + 38 * 8 ≤ 430; omega⟩
  have hrec := va_recv (D := D) (cl := sp_cl) hK hP (ci := ci) (q0 := o) (a := ad o) (q := (M2.1.cls, T, N)) (fs := fl.mapIdx (sp_fv ad g o)) hci (sp_Wg g hs)
  have hr := va_runV (l := l) (e := e) (below := below) (meth := meth) (locs := locs) (cells := 600000) (slots := 7302250) (g := F0 m pc ls ((as.reverse ++ v_r o :: st).map (sp_cv ad))) (rest := st.map (sp_cv ad)) (C := M2.1.cls) (b := ad o) (As := as.map (sp_cv ad)) (nL := 4) (cc := code) ⟨hx, hcode, hml, hown, hts⟩ (k l D cA ad) ⟨cb, hts _ o3.1, hts _ o3.2⟩ ⟨sp_blind, hrec, fun U hU hW => ⟨rfl, by rw [hU]; exact hP, va_K.moved hW.alike hK, hD g, sp_Nst.warm hW hN, sp_Ext.mv hW (fun a h1 _ => by rw [hU]; exact hS.2.1 a h1 (Nat.not_le.mpr h1)) hE⟩⟩ rfl (by rw [List.length_map]; exact hn) hl.1 (by simp [List.map_append, List.map_reverse, sp_cv]) (lv_room (sp_cat hc)) hd ⟨Nat.le_refl _, Nat.le_refl _⟩
  intro T2 hT X
  obtain ⟨v, st₀, t, T', L9, h0, X', hL9, e1, e2, ⟨⟨v2, g2, hv, hk, hP2⟩, hz, hkk⟩, sg⟩ := hr T2 hT X
  cases hv
  rw [h0] at hz hkk
  have hS2 : va_S (fun q => s.heap.size ≤ q) s.heap T'.heap (locs ++ L9) := by
    refine ⟨Nat.le_trans hS.1 (by rw [e1]; exact hz), fun q h1 h2 => ?_, fun q hq => ?_⟩
    · rw [e1, hkk q (Nat.lt_of_lt_of_le h1 hS.1) (fun ⟨o9, h3, h4⟩ => h2 (by show s.heap.size ≤ q; rw [h4]; exact hlo o9 h3))]
      exact hS.2.1 q h1 h2
    · rcases List.mem_append.mp hq with h | h
      · exact hS.2.2 q h
      · obtain ⟨o9, h3, h4⟩ := hL9 q h
        show s.heap.size ≤ q.base
        rw [h4]
        exact hlo o9 h3
  obtain ⟨t2, a1, b1⟩ := hk p l e s m b below meth c D cA ad C T'.heap (locs ++ L9) ls (by rw [e1]; exact hP2) hS2 hl T' rfl X'
  refine ⟨t2, sg t2 ?_, b1⟩
  cases v2 with
  | none => exact a1
  | some v3 => exact a1
theorem lw_V0 {M2 : sp_M} {ix o ci N : Nat} {T : u_T} {fl : List (Option Nat)} (hd : decode code pc = .ok (.invokevirtual ix, 3)) (ho : sp_okV M2 0) (hw : Cond.methodLink RL ix M2.1 ∈ sp_T) (hs : sp_sh[o]? = some (.inl (ci, fl))) (hci : sp_cl[ci]? = some (M2.1.cls, T, N)) (hc : Nat.ble (st.map (fun v => if sp_c1 v = true then 1 else 2)).sum 8 = true) (k : sp_Met 8 M2 (v_r o :: []) g (fun v g2 => lwW L xs (pc + 3) L0 (sp_psh v st) g2)) : lwW L xs pc L0 (v_r o :: st) g := lw_call (as := []) hd ho hw hs hci rfl rfl (Nat.le_of_ble_eq_true hc) k
theorem lw_V1 {M2 : sp_M} {a0 : sp_V} {ix o ci N : Nat} {T : u_T} {fl : List (Option Nat)} (hd : decode code pc = .ok (.invokevirtual ix, 3)) (ho : sp_okV M2 1) (hw : Cond.methodLink RL ix M2.1 ∈ sp_T) (hs : sp_sh[o]? = some (.inl (ci, fl))) (hci : sp_cl[ci]? = some (M2.1.cls, T, N)) (hc : Nat.ble (st.map (fun v => if sp_c1 v = true then 1 else 2)).sum 8 = true) (k : sp_Met 8 M2 (v_r o :: [a0]) g (fun v g2 => lwW L xs (pc + 3) L0 (sp_psh v st) g2)) : lwW L xs pc L0 (a0 :: v_r o :: st) g := lw_call (as := [a0]) hd ho hw hs hci rfl rfl (Nat.le_of_ble_eq_true hc) k
theorem lw_V2 {M2 : sp_M} {a0 a1 : sp_V} {ix o ci N : Nat} {T : u_T} {fl : List (Option Nat)} (hd : decode code pc = .ok (.invokevirtual ix, 3)) (ho : sp_okV M2 2) (hw : Cond.methodLink RL ix M2.1 ∈ sp_T) (hs : sp_sh[o]? = some (.inl (ci, fl))) (hci : sp_cl[ci]? = some (M2.1.cls, T, N)) (hc : Nat.ble (st.map (fun v => if sp_c1 v = true then 1 else 2)).sum 8 = true) (k : sp_Met 8 M2 (v_r o :: [a0, a1]) g (fun v g2 => lwW L xs (pc + 3) L0 (sp_psh v st) g2)) : lwW L xs pc L0 (a1 :: a0 :: v_r o :: st) g := lw_call (as := [a0, a1]) hd ho hw hs hci rfl rfl (Nat.le_of_ble_eq_true hc) k
theorem lw_V3 {M2 : sp_M} {a0 a1 a2 : sp_V} {ix o ci N : Nat} {T : u_T} {fl : List (Option Nat)} (hd : decode code pc = .ok (.invokevirtual ix, 3)) (ho : sp_okV M2 3) (hw : Cond.methodLink RL ix M2.1 ∈ sp_T) (hs : sp_sh[o]? = some (.inl (ci, fl))) (hci : sp_cl[ci]? = some (M2.1.cls, T, N)) (hc : Nat.ble (st.map (fun v => if sp_c1 v = true then 1 else 2)).sum 8 = true) (k : sp_Met 8 M2 (v_r o :: [a0, a1, a2]) g (fun v g2 => lwW L xs (pc + 3) L0 (sp_psh v st) g2)) : lwW L xs pc L0 (a2 :: a1 :: a0 :: v_r o :: st) g := lw_call (as := [a0, a1, a2]) hd ho hw hs hci rfl rfl (Nat.le_of_ble_eq_true hc) k
theorem lw_V4 {M2 : sp_M} {a0 a1 a2 a3 : sp_V} {ix o ci N : Nat} {T : u_T} {fl : List (Option Nat)} (hd : decode code pc = .ok (.invokevirtual ix, 3)) (ho : sp_okV M2 4) (hw : Cond.methodLink RL ix M2.1 ∈ sp_T) (hs : sp_sh[o]? = some (.inl (ci, fl))) (hci : sp_cl[ci]? = some (M2.1.cls, T, N)) (hc : Nat.ble (st.map (fun v => if sp_c1 v = true then 1 else 2)).sum 8 = true) (k : sp_Met 8 M2 (v_r o :: [a0, a1, a2, a3]) g (fun v g2 => lwW L xs (pc + 3) L0 (sp_psh v st) g2)) : lwW L xs pc L0 (a3 :: a2 :: a1 :: a0 :: v_r o :: st) g := lw_call (as := [a0, a1, a2, a3]) hd ho hw hs hci rfl rfl (Nat.le_of_ble_eq_true hc) k
end LAWRULES
theorem lw_r (x : Int32) : -2147483648 ≤ x.toInt ∧ x.toInt < 2147483648 := ⟨by have h := Int32.le_toInt x; omega, by have h := Int32.toInt_lt x; omega⟩
