theorem okX0_init : sp_okI mX0_init := ⟨sp_inT (List.mem_of_getElem? (i := 158) (by decide +kernel)) (by decide +kernel), sp_inT (List.mem_of_getElem? (i := 64) (by decide +kernel)) (by decide +kernel), sp_inT (List.mem_of_getElem? (i := 157) (by decide +kernel)) (by decide +kernel), ⟨by decide +kernel, by decide +kernel⟩, by decide +kernel, by decide, rfl, rfl⟩
theorem oiX0 : Cond.methodLink RX0 3 Lib.objectInit ∈ sp_T := sp_inT (List.mem_of_getElem? (i := 159) (by decide +kernel)) (by decide +kernel)
theorem istX0 : Cond.instantiable RX0 10 ∈ sp_T := sp_inT (List.mem_of_getElem? (i := 155) (by decide +kernel)) (by decide +kernel)
theorem iniX0 : Cond.initialized RX0 ∈ sp_T := sp_inT (List.mem_of_getElem? (i := 64) (by decide +kernel)) (by decide +kernel)
theorem okX1_init : sp_okI mX1_init := ⟨sp_inT (List.mem_of_getElem? (i := 109) (by decide +kernel)) (by decide +kernel), sp_inT (List.mem_of_getElem? (i := 62) (by decide +kernel)) (by decide +kernel), sp_inT (List.mem_of_getElem? (i := 108) (by decide +kernel)) (by decide +kernel), ⟨by decide +kernel, by decide +kernel⟩, by decide +kernel, by decide, rfl, rfl⟩
theorem oiX1 : Cond.methodLink RX1 1 Lib.objectInit ∈ sp_T := sp_inT (List.mem_of_getElem? (i := 110) (by decide +kernel)) (by decide +kernel)
theorem istX1 : Cond.instantiable RX1 3 ∈ sp_T := sp_inT (List.mem_of_getElem? (i := 106) (by decide +kernel)) (by decide +kernel)
theorem iniX1 : Cond.initialized RX1 ∈ sp_T := sp_inT (List.mem_of_getElem? (i := 62) (by decide +kernel)) (by decide +kernel)
theorem okX2_init : sp_okI mX2_init := ⟨sp_inT (List.mem_of_getElem? (i := 203) (by decide +kernel)) (by decide +kernel), sp_inT (List.mem_of_getElem? (i := 65) (by decide +kernel)) (by decide +kernel), sp_inT (List.mem_of_getElem? (i := 202) (by decide +kernel)) (by decide +kernel), ⟨by decide +kernel, by decide +kernel⟩, by decide +kernel, by decide, rfl, rfl⟩
theorem oiX2 : Cond.methodLink RX2 5 Lib.objectInit ∈ sp_T := sp_inT (List.mem_of_getElem? (i := 204) (by decide +kernel)) (by decide +kernel)
theorem istX2 : Cond.instantiable RX2 7 ∈ sp_T := sp_inT (List.mem_of_getElem? (i := 200) (by decide +kernel)) (by decide +kernel)
theorem iniX2 : Cond.initialized RX2 ∈ sp_T := sp_inT (List.mem_of_getElem? (i := 65) (by decide +kernel)) (by decide +kernel)
theorem okX3_init : sp_okI mX3_init := ⟨sp_inT (List.mem_of_getElem? (i := 129) (by decide +kernel)) (by decide +kernel), sp_inT (List.mem_of_getElem? (i := 63) (by decide +kernel)) (by decide +kernel), sp_inT (List.mem_of_getElem? (i := 128) (by decide +kernel)) (by decide +kernel), ⟨by decide +kernel, by decide +kernel⟩, by decide +kernel, by decide, rfl, rfl⟩
theorem oiX3 : Cond.methodLink RX3 3 Lib.objectInit ∈ sp_T := sp_inT (List.mem_of_getElem? (i := 130) (by decide +kernel)) (by decide +kernel)
theorem istX3 : Cond.instantiable RX3 6 ∈ sp_T := sp_inT (List.mem_of_getElem? (i := 126) (by decide +kernel)) (by decide +kernel)
theorem iniX3 : Cond.initialized RX3 ∈ sp_T := sp_inT (List.mem_of_getElem? (i := 63) (by decide +kernel)) (by decide +kernel)
theorem okX4_init : sp_okI mX4_init := ⟨sp_inT (List.mem_of_getElem? (i := 86) (by decide +kernel)) (by decide +kernel), sp_inT (List.mem_of_getElem? (i := 61) (by decide +kernel)) (by decide +kernel), sp_inT (List.mem_of_getElem? (i := 85) (by decide +kernel)) (by decide +kernel), ⟨by decide +kernel, by decide +kernel⟩, by decide +kernel, by decide, rfl, rfl⟩
theorem oiX4 : Cond.methodLink RX4 3 Lib.objectInit ∈ sp_T := sp_inT (List.mem_of_getElem? (i := 87) (by decide +kernel)) (by decide +kernel)
theorem istX4 : Cond.instantiable RX4 4 ∈ sp_T := sp_inT (List.mem_of_getElem? (i := 83) (by decide +kernel)) (by decide +kernel)
theorem iniX4 : Cond.initialized RX4 ∈ sp_T := sp_inT (List.mem_of_getElem? (i := 61) (by decide +kernel)) (by decide +kernel)
theorem okX5_init : sp_okI mX5_init := ⟨sp_inT (List.mem_of_getElem? (i := 78) (by decide +kernel)) (by decide +kernel), sp_inT (List.mem_of_getElem? (i := 60) (by decide +kernel)) (by decide +kernel), sp_inT (List.mem_of_getElem? (i := 77) (by decide +kernel)) (by decide +kernel), ⟨by decide +kernel, by decide +kernel⟩, by decide +kernel, by decide, rfl, rfl⟩
theorem oiX5 : Cond.methodLink RX5 1 Lib.objectInit ∈ sp_T := sp_inT (List.mem_of_getElem? (i := 79) (by decide +kernel)) (by decide +kernel)
theorem istX5 : Cond.instantiable RX5 8 ∈ sp_T := sp_inT (List.mem_of_getElem? (i := 75) (by decide +kernel)) (by decide +kernel)
theorem iniX5 : Cond.initialized RX5 ∈ sp_T := sp_inT (List.mem_of_getElem? (i := 60) (by decide +kernel)) (by decide +kernel)
theorem okX6_init : sp_okI mX6_init := ⟨sp_inT (List.mem_of_getElem? (i := 749) (by decide +kernel)) (by decide +kernel), sp_inT (List.mem_of_getElem? (i := 66) (by decide +kernel)) (by decide +kernel), sp_inT (List.mem_of_getElem? (i := 748) (by decide +kernel)) (by decide +kernel), ⟨by decide +kernel, by decide +kernel⟩, by decide +kernel, by decide, rfl, rfl⟩
theorem oiX6 : Cond.methodLink RX6 1 Lib.objectInit ∈ sp_T := sp_inT (List.mem_of_getElem? (i := 750) (by decide +kernel)) (by decide +kernel)
theorem istX6 : Cond.instantiable RX6 20 ∈ sp_T := sp_inT (List.mem_of_getElem? (i := 746) (by decide +kernel)) (by decide +kernel)
theorem iniX6 : Cond.initialized RX6 ∈ sp_T := sp_inT (List.mem_of_getElem? (i := 66) (by decide +kernel)) (by decide +kernel)
theorem oi_1 : Cond.instanceMethod Lib.objectInit ∈ sp_T := sp_inT (List.mem_of_getElem? (i := 80) (by decide +kernel)) (by decide +kernel)
theorem oi_2 : Cond.code Lib.objectInit ⟨#[0xb1]⟩ 1 none ∈ sp_T := sp_inT (List.mem_of_getElem? (i := 81) (by decide +kernel)) (by decide +kernel)
theorem ac_int : Cond.arrayClass .int ∈ sp_T := sp_inT (List.mem_of_getElem? (i := 104) (by decide +kernel)) (by decide +kernel)
theorem ac_byte : Cond.arrayClass .byte ∈ sp_T := sp_inT (List.mem_of_getElem? (i := 229) (by decide +kernel)) (by decide +kernel)
theorem ac_boolean : Cond.arrayClass .boolean ∈ sp_T := sp_inT (List.mem_of_getElem? (i := 153) (by decide +kernel)) (by decide +kernel)
theorem ac_char : Cond.arrayClass .char ∈ sp_T := sp_inT (List.mem_of_getElem? (i := 812) (by decide +kernel)) (by decide +kernel)
theorem clX5_7 : Cond.classLink RX5 7 RX4 ∈ sp_T := sp_inT (List.mem_of_getElem? (i := 82) (by decide +kernel)) (by decide +kernel)
theorem clX5_16 : Cond.classLink RX5 16 RX1 ∈ sp_T := sp_inT (List.mem_of_getElem? (i := 105) (by decide +kernel)) (by decide +kernel)
theorem clX5_23 : Cond.classLink RX5 23 RX3 ∈ sp_T := sp_inT (List.mem_of_getElem? (i := 125) (by decide +kernel)) (by decide +kernel)
theorem clX5_30 : Cond.classLink RX5 30 RX0 ∈ sp_T := sp_inT (List.mem_of_getElem? (i := 154) (by decide +kernel)) (by decide +kernel)
theorem clX5_37 : Cond.classLink RX5 37 RX2 ∈ sp_T := sp_inT (List.mem_of_getElem? (i := 199) (by decide +kernel)) (by decide +kernel)
theorem clX1_9 : Cond.classLink RX1 9 RX4 ∈ sp_T := sp_inT (List.mem_of_getElem? (i := 111) (by decide +kernel)) (by decide +kernel)
theorem fF_0_3 : sp_fF RX0 0 3 := ⟨RX0, TX0, 10, .array .int, rfl, by decide, rfl, rfl, by decide +kernel, fun _ => rfl, fun _ => rfl⟩
theorem fF_0_4 : sp_fF RX0 0 4 := ⟨RX0, TX0, 10, .array .int, rfl, by decide, rfl, rfl, by decide +kernel, fun _ => rfl, fun _ => rfl⟩
theorem fF_0_5 : sp_fF RX0 0 5 := ⟨RX0, TX0, 10, .array .int, rfl, by decide, rfl, rfl, by decide +kernel, fun _ => rfl, fun _ => rfl⟩
theorem fF_1_0 : sp_fF RX1 1 0 := ⟨RX1, TX1, 3, .array (.object "StylePapers$Town"), rfl, by decide, rfl, rfl, by decide +kernel, fun _ => rfl, fun _ => rfl⟩
theorem fF_2_0 : sp_fF RX2 2 0 := ⟨RX2, TX2, 7, .array .byte, rfl, by decide, rfl, rfl, by decide +kernel, fun _ => rfl, fun _ => rfl⟩
theorem fF_2_2 : sp_fF RX2 2 2 := ⟨RX2, TX2, 7, .array .int, rfl, by decide, rfl, rfl, by decide +kernel, fun _ => rfl, fun _ => rfl⟩
theorem fF_3_0 : sp_fF RX3 3 0 := ⟨RX3, TX3, 6, .array .int, rfl, by decide, rfl, rfl, by decide +kernel, fun _ => rfl, fun _ => rfl⟩
theorem fF_3_1 : sp_fF RX3 3 1 := ⟨RX3, TX3, 6, .array .int, rfl, by decide, rfl, rfl, by decide +kernel, fun _ => rfl, fun _ => rfl⟩
theorem fF_3_2 : sp_fF RX3 3 2 := ⟨RX3, TX3, 6, .array .int, rfl, by decide, rfl, rfl, by decide +kernel, fun _ => rfl, fun _ => rfl⟩
theorem fF_3_3 : sp_fF RX3 3 3 := ⟨RX3, TX3, 6, .array .int, rfl, by decide, rfl, rfl, by decide +kernel, fun _ => rfl, fun _ => rfl⟩
theorem fF_3_4 : sp_fF RX3 3 4 := ⟨RX3, TX3, 6, .array .boolean, rfl, by decide, rfl, rfl, by decide +kernel, fun _ => rfl, fun _ => rfl⟩
theorem fF_4_0 : sp_fF RX4 4 0 := ⟨RX4, TX4, 4, .array .int, rfl, by decide, rfl, rfl, by decide +kernel, fun _ => rfl, fun _ => rfl⟩
theorem fF_4_1 : sp_fF RX4 4 1 := ⟨RX4, TX4, 4, .array .int, rfl, by decide, rfl, rfl, by decide +kernel, fun _ => rfl, fun _ => rfl⟩
theorem fF_4_2 : sp_fF RX4 4 2 := ⟨RX4, TX4, 4, .array .int, rfl, by decide, rfl, rfl, by decide +kernel, fun _ => rfl, fun _ => rfl⟩
theorem fF_5_0 : sp_fF RX5 5 0 := ⟨RX5, TX5, 8, .object "StylePapers$Town", rfl, by decide, rfl, rfl, by decide +kernel, fun _ => rfl, fun _ => rfl⟩
theorem fF_5_1 : sp_fF RX5 5 1 := ⟨RX5, TX5, 8, .object "StylePapers$Past", rfl, by decide, rfl, rfl, by decide +kernel, fun _ => rfl, fun _ => rfl⟩
theorem fF_5_2 : sp_fF RX5 5 2 := ⟨RX5, TX5, 8, .object "StylePapers$StyleMap", rfl, by decide, rfl, rfl, by decide +kernel, fun _ => rfl, fun _ => rfl⟩
theorem fF_5_3 : sp_fF RX5 5 3 := ⟨RX5, TX5, 8, .object "StylePapers$Paper", rfl, by decide, rfl, rfl, by decide +kernel, fun _ => rfl, fun _ => rfl⟩
theorem fF_5_4 : sp_fF RX5 5 4 := ⟨RX5, TX5, 8, .object "StylePapers$Script", rfl, by decide, rfl, rfl, by decide +kernel, fun _ => rfl, fun _ => rfl⟩
theorem fF_6_0 : sp_fF RX6 6 0 := ⟨RX6, TX6, 20, .array .int, rfl, by decide, rfl, rfl, by decide +kernel, fun _ => rfl, fun _ => rfl⟩
theorem fF_6_1 : sp_fF RX6 6 1 := ⟨RX6, TX6, 20, .array .int, rfl, by decide, rfl, rfl, by decide +kernel, fun _ => rfl, fun _ => rfl⟩
theorem fF_6_3 : sp_fF RX6 6 3 := ⟨RX6, TX6, 20, .array .int, rfl, by decide, rfl, rfl, by decide +kernel, fun _ => rfl, fun _ => rfl⟩
theorem fF_6_4 : sp_fF RX6 6 4 := ⟨RX6, TX6, 20, .array .int, rfl, by decide, rfl, rfl, by decide +kernel, fun _ => rfl, fun _ => rfl⟩
theorem fF_6_5 : sp_fF RX6 6 5 := ⟨RX6, TX6, 20, .array .int, rfl, by decide, rfl, rfl, by decide +kernel, fun _ => rfl, fun _ => rfl⟩
theorem fF_6_8 : sp_fF RX6 6 8 := ⟨RX6, TX6, 20, .array .int, rfl, by decide, rfl, rfl, by decide +kernel, fun _ => rfl, fun _ => rfl⟩
theorem fF_6_9 : sp_fF RX6 6 9 := ⟨RX6, TX6, 20, .array .char, rfl, by decide, rfl, rfl, by decide +kernel, fun _ => rfl, fun _ => rfl⟩
theorem fF_6_10 : sp_fF RX6 6 10 := ⟨RX6, TX6, 20, .array .int, rfl, by decide, rfl, rfl, by decide +kernel, fun _ => rfl, fun _ => rfl⟩
theorem fF_6_11 : sp_fF RX6 6 11 := ⟨RX6, TX6, 20, .array .int, rfl, by decide, rfl, rfl, by decide +kernel, fun _ => rfl, fun _ => rfl⟩
theorem fF_6_13 : sp_fF RX6 6 13 := ⟨RX6, TX6, 20, .array .int, rfl, by decide, rfl, rfl, by decide +kernel, fun _ => rfl, fun _ => rfl⟩
theorem fF_6_14 : sp_fF RX6 6 14 := ⟨RX6, TX6, 20, .array .int, rfl, by decide, rfl, rfl, by decide +kernel, fun _ => rfl, fun _ => rfl⟩
theorem fF_6_15 : sp_fF RX6 6 15 := ⟨RX6, TX6, 20, .array .int, rfl, by decide, rfl, rfl, by decide +kernel, fun _ => rfl, fun _ => rfl⟩
theorem fF_6_16 : sp_fF RX6 6 16 := ⟨RX6, TX6, 20, .array .int, rfl, by decide, rfl, rfl, by decide +kernel, fun _ => rfl, fun _ => rfl⟩
theorem fF_6_18 : sp_fF RX6 6 18 := ⟨RX6, TX6, 20, .array .int, rfl, by decide, rfl, rfl, by decide +kernel, fun _ => rfl, fun _ => rfl⟩
