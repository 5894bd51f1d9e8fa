theorem liX5_9 : Cond.methodLink RX5 9 yX4_init ∈ sp_T := sp_inT (List.mem_of_getElem? (i := 84) (by decide +kernel)) (by decide +kernel)
theorem liX5_18 : Cond.methodLink RX5 18 yX1_init ∈ sp_T := sp_inT (List.mem_of_getElem? (i := 107) (by decide +kernel)) (by decide +kernel)
theorem liX5_25 : Cond.methodLinkNest RX5 25 yX3_init "StylePapers" ∈ lw_tbl := List.mem_of_getElem? (i := 127) (by decide +kernel)
theorem liX5_32 : Cond.methodLinkNest RX5 32 yX0_init "StylePapers" ∈ lw_tbl := List.mem_of_getElem? (i := 156) (by decide +kernel)
theorem liX5_39 : Cond.methodLinkNest RX5 39 yX2_init "StylePapers" ∈ lw_tbl := List.mem_of_getElem? (i := 201) (by decide +kernel)
theorem tyX1_d : ∀ j : Nat, j < 3 → defaultValue (tyX1 j) = vp_V (([some 6, none, none] : List (Option Nat)).map (fun x => match x with | none => Value.int 0 | some _ => Value.null)) j
  | 0, _ => rfl
  | 1, _ => rfl
  | 2, _ => rfl
  | n + 3, h => absurd h (by omega)
theorem tyX3_d : ∀ j : Nat, j < 6 → defaultValue (tyX3 j) = vp_V (([some 40, some 41, some 42, some 43, some 44, none] : List (Option Nat)).map (fun x => match x with | none => Value.int 0 | some _ => Value.null)) j
  | 0, _ => rfl
  | 1, _ => rfl
  | 2, _ => rfl
  | 3, _ => rfl
  | 4, _ => rfl
  | 5, _ => rfl
  | n + 6, h => absurd h (by omega)
theorem tyX0_d : ∀ j : Nat, j < 10 → defaultValue (tyX0 j) = vp_V (([none, none, none, some 46, some 47, some 48, none, none, none, none] : List (Option Nat)).map (fun x => match x with | none => Value.int 0 | some _ => Value.null)) j
  | 0, _ => rfl
  | 1, _ => rfl
  | 2, _ => rfl
  | 3, _ => rfl
  | 4, _ => rfl
  | 5, _ => rfl
  | 6, _ => rfl
  | 7, _ => rfl
  | 8, _ => rfl
  | 9, _ => rfl
  | n + 10, h => absurd h (by omega)
theorem tyX2_d : ∀ j : Nat, j < 7 → defaultValue (tyX2 j) = vp_V (([some 50, none, some 51, none, none, none, none] : List (Option Nat)).map (fun x => match x with | none => Value.int 0 | some _ => Value.null)) j
  | 0, _ => rfl
  | 1, _ => rfl
  | 2, _ => rfl
  | 3, _ => rfl
  | 4, _ => rfl
  | 5, _ => rfl
  | 6, _ => rfl
  | n + 7, h => absurd h (by omega)
