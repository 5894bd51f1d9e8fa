abbrev lw_G : List Cond := flatC (Jvm.Cond.and given_1 narrow_1)
abbrev lw_st (k : Nat) : Term := Term.static RX2 (sp_nm k) "[I"
abbrev lw_sg (i : Nat) : Term := Term.string RX2 (sp_sx i)
abbrev lw_by (i : Nat) : Term := Term.field (lw_sg i) "java/lang/String" "value" "[B"
theorem lw_g1 : ∀ k : Nat, k < 3 → Cond.arrayOf (lw_st k) .int ∈ lw_G := by decide +kernel
theorem lw_g2 : ∀ k : Nat, k < 3 → Cond.eq (.length (lw_st k)) (.int (Int32.ofNat (sp_num k).length)) ∈ lw_G := by decide +kernel
theorem lw_g3 : ∀ k : Nat, k < 3 → ∀ j : Nat, j < (sp_num k).length → Cond.eq (.elem (lw_st k) (.int (Int32.ofNat j))) (.int (Int32.ofInt ((sp_num k).getD j 0))) ∈ lw_G := by decide +kernel
theorem lw_g4 : ∀ i : Nat, i < 5 → Cond.exactly (lw_sg i) "java/lang/String" ∈ lw_G := by decide +kernel
theorem lw_g5 : ∀ i : Nat, i < 5 → Cond.eq (.field (lw_sg i) "java/lang/String" "coder" "B") (.int 0) ∈ lw_G := by decide +kernel
theorem lw_g6 : ∀ i : Nat, i < 5 → Cond.arrayOf (lw_by i) .byte ∈ lw_G := by decide +kernel
theorem lw_g7 : ∀ i : Nat, i < 5 → Cond.eq (.length (lw_by i)) (.int (Int32.ofNat (sp_len.getD i 0))) ∈ lw_G := by decide +kernel
theorem lw_g8 : ∀ i : Nat, i < 5 → ∀ j : Nat, j < sp_len.getD i 0 → Cond.eq (.elem (lw_by i) (.int (Int32.ofNat j))) (.int ((sp_byt.getD i []).getD j 0)) ∈ lw_G := by decide +kernel
theorem lw_g9 : ∀ i : Nat, i < 5 → ∀ j : Nat, j < 5 → i ≠ j → Cond.not (Cond.eq (lw_sg i) (lw_sg j)) ∈ lw_G ∨ Cond.not (Cond.eq (lw_sg j) (lw_sg i)) ∈ lw_G := by decide +kernel
theorem lw_g10 : Cond.eq (.static "java/lang/String" "COMPACT_STRINGS" "Z") (.int 1) ∈ lw_G := by decide +kernel
theorem lw_g11 : Cond.isRef (.static "jdk/internal/util/Preconditions" "SIOOBE_FORMATTER" "Ljava/util/function/BiFunction;") ∈ lw_G := by decide +kernel
theorem lw_h1 : ∀ k : Nat, k < 3 → Cond.laysStatic RX2 (sp_nm k) "[I" ∈ lw_tbl
  | 0, _ => (List.mem_of_getElem? (i := 503) (by decide +kernel))
  | 1, _ => (List.mem_of_getElem? (i := 515) (by decide +kernel))
  | 2, _ => (List.mem_of_getElem? (i := 513) (by decide +kernel))
  | n + 3, h => absurd h (by omega)
theorem lw_h2 : ∀ i : Nat, i < 5 → Cond.stringRef RX2 (sp_sx i) (sp_tx i) ∈ lw_tbl
  | 0, _ => (List.mem_of_getElem? (i := 445) (by decide +kernel))
  | 1, _ => (List.mem_of_getElem? (i := 446) (by decide +kernel))
  | 2, _ => (List.mem_of_getElem? (i := 447) (by decide +kernel))
  | 3, _ => (List.mem_of_getElem? (i := 448) (by decide +kernel))
  | 4, _ => (List.mem_of_getElem? (i := 449) (by decide +kernel))
  | n + 5, h => absurd h (by omega)
theorem lw_h3 : Cond.initialized RX2 ∈ lw_tbl := (List.mem_of_getElem? (i := 65) (by decide +kernel))
theorem lw_h4 : Cond.laysStatic "java/lang/String" "COMPACT_STRINGS" "Z" ∈ lw_tbl := (List.mem_of_getElem? (i := 463) (by decide +kernel))
theorem lw_h5 : Cond.initialized "java/lang/String" ∈ lw_tbl := (List.mem_of_getElem? (i := 69) (by decide +kernel))
theorem lw_h6 : Cond.laysStatic "jdk/internal/util/Preconditions" "SIOOBE_FORMATTER" "Ljava/util/function/BiFunction;" ∈ lw_tbl := (List.mem_of_getElem? (i := 479) (by decide +kernel))
theorem lw_h7 : Cond.initialized "jdk/internal/util/Preconditions" ∈ lw_tbl := (List.mem_of_getElem? (i := 71) (by decide +kernel))
theorem lw_h8 : Cond.arrayOver (.object "StylePapers$Town") ∈ lw_tbl := (List.mem_of_getElem? (i := 112) (by decide +kernel))
theorem vkS_ad {N : Nat} {len : List Nat} {byt : List (List Int32)} {aK aV bK bV : Nat → Nat} {A : Nat → Prop} {U : State} {H : Heap} (h : vk_S N len byt aK aV A U H) (h1 : ∀ i, i < N → bK i = aK i) (h2 : ∀ i, i < N → bV i = aV i) : vk_S N len byt bK bV A U H :=
  ⟨fun i hi => by rw [h1 i hi, h2 i hi]; exact h.1 i hi, fun i j hi hj e => h.2 i j hi hj (by rw [h1 i hi, h1 j hj] at e; exact e)⟩
/-- the addresses outside, and that they hold what sp_Ext says, whatever ad is below 67 -/
theorem lw_ext {b : Nat} {s : State} (hts : ∀ w ∈ lw_tbl, w.before #[Value.ref b] s = true) (hgv : (Jvm.Cond.and given_1 narrow_1).before #[Value.ref b] s = true) : ∃ ex : Nat → Nat, ∀ ad : Nat → Nat, (∀ o, o < 67 → s.heap.size ≤ ad o) → (∀ o, 67 ≤ o → o < 90 → ad o = ex o) → sp_Ext ad s := by
  have hG := flat_of_before _ hgv
  have hA : ∀ a : Nat, a < s.heap.size → ¬ (fun q : Nat => s.heap.size ≤ q) a := fun a h1 h2 => by
    have h2 : s.heap.size ≤ a := h2
    omega
  have h0 : ∀ k : Nat, ∃ t : Nat, k < 3 → (lw_st k).eval #[Value.ref b] s none [] s = some (.ref t) ∧ va_T .int t (sp_num k).length (fun j => .int (Int32.ofInt ((sp_num k).getD j 0))) (fun q : Nat => s.heap.size ≤ q) s s.heap := by
    intro k
    by_cases hk : k < 3
    · have hN : (sp_num k).length < 2 ^ 31 := by
        rcases (show k = 0 ∨ k = 1 ∨ k = 2 by omega) with rfl | rfl | rfl <;> decide
      obtain ⟨t, h1, h2⟩ := va_Tof (f := fun j => .int (Int32.ofInt ((sp_num k).getD j 0))) (A := fun q : Nat => s.heap.size ≤ q) hN (hG _ (lw_g1 k hk)) (va_eqt (hG _ (lw_g2 k hk))) (fun j hj => va_eqt (hG _ (lw_g3 k hk j hj))) hA
      exact ⟨t, fun _ => ⟨h1, h2⟩⟩
    · exact ⟨0, fun h => absurd h hk⟩
  obtain ⟨ta, hta⟩ := Classical.axiomOfChoice h0
  obtain ⟨aK, aV, hS, hE⟩ := vk_Sof (args := #[Value.ref b]) (s := s) (N := 5) (tm := lw_sg) (len := sp_len) (byt := sp_byt) (A := fun q : Nat => s.heap.size ≤ q) (fun i hi => by rcases (show i = 0 ∨ i = 1 ∨ i = 2 ∨ i = 3 ∨ i = 4 by omega) with rfl | rfl | rfl | rfl | rfl <;> decide) (fun i hi => hG _ (lw_g4 i hi)) (fun i hi => hG _ (lw_g5 i hi)) (fun i hi => hG _ (lw_g6 i hi)) (fun i hi => hG _ (lw_g7 i hi)) (fun i hi j hj => hG _ (lw_g8 i hi j hj)) (fun i j hi hj hn => (lw_g9 i hi j hj hn).elim (fun h => Or.inl (hG _ h)) (fun h => Or.inr (hG _ h))) hA
  refine ⟨fun o => if o < 80 then ta (o - 70) else if o < 85 then aK (o - 80) else aV (o - 85), fun ad hlo hhi => ?_⟩
  have hhi : ∀ o, 67 ≤ o → o < 90 → ad o = if o < 80 then ta (o - 70) else if o < 85 then aK (o - 80) else aV (o - 85) := hhi
  have hn : ∀ q, sp_A ad q → (fun q : Nat => s.heap.size ≤ q) q := fun q hq => by
    obtain ⟨o, h1, h2⟩ := hq
    show s.heap.size ≤ q
    rw [h2]
    exact hlo o h1
  have e1 : ∀ k, k < 3 → ad (70 + k) = ta k := fun k hk => by
    rw [hhi (70 + k) (by omega) (by omega), if_pos (by omega), Nat.add_sub_cancel_left]
  have e2 : ∀ i, i < 5 → ad (80 + i) = aK i := fun i hi => by
    rw [hhi (80 + i) (by omega) (by omega), if_neg (by omega), if_pos (by omega), Nat.add_sub_cancel_left]
  have e3 : ∀ i, i < 5 → ad (85 + i) = aV i := fun i hi => by
    rw [hhi (85 + i) (by omega) (by omega), if_neg (by omega), if_neg (by omega), Nat.add_sub_cancel_left]
  refine ⟨fun k hk => ?_, fun i hi => ?_, vkS_ad (hS.narrow hn) e2 e3, ?_, ?_⟩
  · rw [e1 k hk]
    exact ⟨(va_Zref (hts _ (lw_h1 k hk)) (hts _ lw_h3) (hta k hk).1 hA).narrow hn, (hta k hk).2.narrow hn⟩
  · rw [e2 i hi]
    exact vk_R.of (hts _ (lw_h2 i hi)) (hE i hi)
  · exact (va_Zof (hts _ lw_h4) (hts _ lw_h5) (va_eqi (hG _ lw_g10)) hA).narrow hn
  · exact (va_Zqof (hts _ lw_h6) (hts _ lw_h7) (hG _ lw_g11) hA).narrow hn
