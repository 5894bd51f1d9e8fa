abbrev mX5_init : sp_M := (yX5_init, cX5_init, 1, none)
abbrev mX5_on : sp_M := (yX5_on, cX5_on, 3, some .int)
theorem okX5_on : sp_okV mX5_on 2 := ⟨sp_inT (List.mem_of_getElem? (i := 258) (by decide +kernel)) (by decide +kernel), sp_inT (List.mem_of_getElem? (i := 60) (by decide +kernel)) (by decide +kernel), ⟨sp_inT (List.mem_of_getElem? (i := 256) (by decide +kernel)) (by decide +kernel), sp_inT (List.mem_of_getElem? (i := 257) (by decide +kernel)) (by decide +kernel)⟩, ⟨by decide +kernel, by decide +kernel⟩, by decide +kernel, by decide⟩
abbrev mX5_puts : sp_M := (yX5_puts, cX5_puts, 5, some .int)
theorem okX5_puts : sp_okV mX5_puts 4 := ⟨sp_inT (List.mem_of_getElem? (i := 290) (by decide +kernel)) (by decide +kernel), sp_inT (List.mem_of_getElem? (i := 60) (by decide +kernel)) (by decide +kernel), ⟨sp_inT (List.mem_of_getElem? (i := 288) (by decide +kernel)) (by decide +kernel), sp_inT (List.mem_of_getElem? (i := 289) (by decide +kernel)) (by decide +kernel)⟩, ⟨by decide +kernel, by decide +kernel⟩, by decide +kernel, by decide⟩
abbrev mX5_names : sp_M := (yX5_names, cX5_names, 4, some .int)
theorem okX5_names : sp_okV mX5_names 3 := ⟨sp_inT (List.mem_of_getElem? (i := 311) (by decide +kernel)) (by decide +kernel), sp_inT (List.mem_of_getElem? (i := 60) (by decide +kernel)) (by decide +kernel), ⟨sp_inT (List.mem_of_getElem? (i := 309) (by decide +kernel)) (by decide +kernel), sp_inT (List.mem_of_getElem? (i := 310) (by decide +kernel)) (by decide +kernel)⟩, ⟨by decide +kernel, by decide +kernel⟩, by decide +kernel, by decide⟩
abbrev mX5_voters : sp_M := (yX5_voters, cX5_voters, 3, some .int)
theorem okX5_voters : sp_okV mX5_voters 2 := ⟨sp_inT (List.mem_of_getElem? (i := 319) (by decide +kernel)) (by decide +kernel), sp_inT (List.mem_of_getElem? (i := 60) (by decide +kernel)) (by decide +kernel), ⟨sp_inT (List.mem_of_getElem? (i := 317) (by decide +kernel)) (by decide +kernel), sp_inT (List.mem_of_getElem? (i := 318) (by decide +kernel)) (by decide +kernel)⟩, ⟨by decide +kernel, by decide +kernel⟩, by decide +kernel, by decide⟩
abbrev mX5_draw : sp_M := (yX5_draw, cX5_draw, 4, some .int)
theorem okX5_draw : sp_okV mX5_draw 3 := ⟨sp_inT (List.mem_of_getElem? (i := 327) (by decide +kernel)) (by decide +kernel), sp_inT (List.mem_of_getElem? (i := 60) (by decide +kernel)) (by decide +kernel), ⟨sp_inT (List.mem_of_getElem? (i := 325) (by decide +kernel)) (by decide +kernel), sp_inT (List.mem_of_getElem? (i := 326) (by decide +kernel)) (by decide +kernel)⟩, ⟨by decide +kernel, by decide +kernel⟩, by decide +kernel, by decide⟩
abbrev mX5_follows : sp_M := (yX5_follows, cX5_follows, 4, some .int)
theorem okX5_follows : sp_okV mX5_follows 3 := ⟨sp_inT (List.mem_of_getElem? (i := 342) (by decide +kernel)) (by decide +kernel), sp_inT (List.mem_of_getElem? (i := 60) (by decide +kernel)) (by decide +kernel), ⟨sp_inT (List.mem_of_getElem? (i := 340) (by decide +kernel)) (by decide +kernel), sp_inT (List.mem_of_getElem? (i := 341) (by decide +kernel)) (by decide +kernel)⟩, ⟨by decide +kernel, by decide +kernel⟩, by decide +kernel, by decide⟩
abbrev mX5_undo : sp_M := (yX5_undo, cX5_undo, 1, some .int)
theorem okX5_undo : sp_okV mX5_undo 0 := ⟨sp_inT (List.mem_of_getElem? (i := 360) (by decide +kernel)) (by decide +kernel), sp_inT (List.mem_of_getElem? (i := 60) (by decide +kernel)) (by decide +kernel), ⟨sp_inT (List.mem_of_getElem? (i := 358) (by decide +kernel)) (by decide +kernel), sp_inT (List.mem_of_getElem? (i := 359) (by decide +kernel)) (by decide +kernel)⟩, ⟨by decide +kernel, by decide +kernel⟩, by decide +kernel, by decide⟩
abbrev mX5_of : sp_M := (yX5_of, cX5_of, 3, some .int)
theorem okX5_of : sp_okV mX5_of 2 := ⟨sp_inT (List.mem_of_getElem? (i := 372) (by decide +kernel)) (by decide +kernel), sp_inT (List.mem_of_getElem? (i := 60) (by decide +kernel)) (by decide +kernel), ⟨sp_inT (List.mem_of_getElem? (i := 370) (by decide +kernel)) (by decide +kernel), sp_inT (List.mem_of_getElem? (i := 371) (by decide +kernel)) (by decide +kernel)⟩, ⟨by decide +kernel, by decide +kernel⟩, by decide +kernel, by decide⟩
abbrev mX5_type : sp_M := (yX5_type, cX5_type, 2, some .int)
theorem okX5_type : sp_okV mX5_type 1 := ⟨sp_inT (List.mem_of_getElem? (i := 393) (by decide +kernel)) (by decide +kernel), sp_inT (List.mem_of_getElem? (i := 60) (by decide +kernel)) (by decide +kernel), ⟨sp_inT (List.mem_of_getElem? (i := 391) (by decide +kernel)) (by decide +kernel), sp_inT (List.mem_of_getElem? (i := 392) (by decide +kernel)) (by decide +kernel)⟩, ⟨by decide +kernel, by decide +kernel⟩, by decide +kernel, by decide⟩
abbrev mX5_clear : sp_M := (yX5_clear, cX5_clear, 1, some .int)
theorem okX5_clear : sp_okV mX5_clear 0 := ⟨sp_inT (List.mem_of_getElem? (i := 410) (by decide +kernel)) (by decide +kernel), sp_inT (List.mem_of_getElem? (i := 60) (by decide +kernel)) (by decide +kernel), ⟨sp_inT (List.mem_of_getElem? (i := 408) (by decide +kernel)) (by decide +kernel), sp_inT (List.mem_of_getElem? (i := 409) (by decide +kernel)) (by decide +kernel)⟩, ⟨by decide +kernel, by decide +kernel⟩, by decide +kernel, by decide⟩
abbrev mX5_does : sp_M := (yX5_does, cX5_does, 3, some .int)
theorem okX5_does : sp_okV mX5_does 0 := ⟨sp_inT (List.mem_of_getElem? (i := 418) (by decide +kernel)) (by decide +kernel), sp_inT (List.mem_of_getElem? (i := 60) (by decide +kernel)) (by decide +kernel), ⟨sp_inT (List.mem_of_getElem? (i := 416) (by decide +kernel)) (by decide +kernel), sp_inT (List.mem_of_getElem? (i := 417) (by decide +kernel)) (by decide +kernel)⟩, ⟨by decide +kernel, by decide +kernel⟩, by decide +kernel, by decide⟩
abbrev mX5_styles : sp_M := (yX5_styles, cX5_styles, 1, some .int)
theorem okX5_styles : sp_okV mX5_styles 0 := ⟨sp_inT (List.mem_of_getElem? (i := 528) (by decide +kernel)) (by decide +kernel), sp_inT (List.mem_of_getElem? (i := 60) (by decide +kernel)) (by decide +kernel), ⟨sp_inT (List.mem_of_getElem? (i := 526) (by decide +kernel)) (by decide +kernel), sp_inT (List.mem_of_getElem? (i := 527) (by decide +kernel)) (by decide +kernel)⟩, ⟨by decide +kernel, by decide +kernel⟩, by decide +kernel, by decide⟩
abbrev mX5_style : sp_M := (yX5_style, cX5_style, 3, some .int)
theorem okX5_style : sp_okV mX5_style 2 := ⟨sp_inT (List.mem_of_getElem? (i := 532) (by decide +kernel)) (by decide +kernel), sp_inT (List.mem_of_getElem? (i := 60) (by decide +kernel)) (by decide +kernel), ⟨sp_inT (List.mem_of_getElem? (i := 530) (by decide +kernel)) (by decide +kernel), sp_inT (List.mem_of_getElem? (i := 531) (by decide +kernel)) (by decide +kernel)⟩, ⟨by decide +kernel, by decide +kernel⟩, by decide +kernel, by decide⟩
abbrev mX5_without : sp_M := (yX5_without, cX5_without, 2, some .int)
theorem okX5_without : sp_okV mX5_without 1 := ⟨sp_inT (List.mem_of_getElem? (i := 565) (by decide +kernel)) (by decide +kernel), sp_inT (List.mem_of_getElem? (i := 60) (by decide +kernel)) (by decide +kernel), ⟨sp_inT (List.mem_of_getElem? (i := 563) (by decide +kernel)) (by decide +kernel), sp_inT (List.mem_of_getElem? (i := 564) (by decide +kernel)) (by decide +kernel)⟩, ⟨by decide +kernel, by decide +kernel⟩, by decide +kernel, by decide⟩
abbrev mX5_border : sp_M := (yX5_border, cX5_border, 1, some .int)
theorem okX5_border : sp_okV mX5_border 0 := ⟨sp_inT (List.mem_of_getElem? (i := 569) (by decide +kernel)) (by decide +kernel), sp_inT (List.mem_of_getElem? (i := 60) (by decide +kernel)) (by decide +kernel), ⟨sp_inT (List.mem_of_getElem? (i := 567) (by decide +kernel)) (by decide +kernel), sp_inT (List.mem_of_getElem? (i := 568) (by decide +kernel)) (by decide +kernel)⟩, ⟨by decide +kernel, by decide +kernel⟩, by decide +kernel, by decide⟩
abbrev mX5_beside : sp_M := (yX5_beside, cX5_beside, 3, some .int)
theorem okX5_beside : sp_okV mX5_beside 2 := ⟨sp_inT (List.mem_of_getElem? (i := 577) (by decide +kernel)) (by decide +kernel), sp_inT (List.mem_of_getElem? (i := 60) (by decide +kernel)) (by decide +kernel), ⟨sp_inT (List.mem_of_getElem? (i := 575) (by decide +kernel)) (by decide +kernel), sp_inT (List.mem_of_getElem? (i := 576) (by decide +kernel)) (by decide +kernel)⟩, ⟨by decide +kernel, by decide +kernel⟩, by decide +kernel, by decide⟩
abbrev mX5_unlike : sp_M := (yX5_unlike, cX5_unlike, 7, some .int)
theorem okX5_unlike : sp_okV mX5_unlike 2 := ⟨sp_inT (List.mem_of_getElem? (i := 588) (by decide +kernel)) (by decide +kernel), sp_inT (List.mem_of_getElem? (i := 60) (by decide +kernel)) (by decide +kernel), ⟨sp_inT (List.mem_of_getElem? (i := 586) (by decide +kernel)) (by decide +kernel), sp_inT (List.mem_of_getElem? (i := 587) (by decide +kernel)) (by decide +kernel)⟩, ⟨by decide +kernel, by decide +kernel⟩, by decide +kernel, by decide⟩
abbrev mX5_odd : sp_M := (yX5_odd, cX5_odd, 2, some .int)
theorem okX5_odd : sp_okV mX5_odd 1 := ⟨sp_inT (List.mem_of_getElem? (i := 596) (by decide +kernel)) (by decide +kernel), sp_inT (List.mem_of_getElem? (i := 60) (by decide +kernel)) (by decide +kernel), ⟨sp_inT (List.mem_of_getElem? (i := 594) (by decide +kernel)) (by decide +kernel), sp_inT (List.mem_of_getElem? (i := 595) (by decide +kernel)) (by decide +kernel)⟩, ⟨by decide +kernel, by decide +kernel⟩, by decide +kernel, by decide⟩
abbrev mX5_paper : sp_M := (yX5_paper, cX5_paper, 3, some .int)
theorem okX5_paper : sp_okV mX5_paper 2 := ⟨sp_inT (List.mem_of_getElem? (i := 610) (by decide +kernel)) (by decide +kernel), sp_inT (List.mem_of_getElem? (i := 60) (by decide +kernel)) (by decide +kernel), ⟨sp_inT (List.mem_of_getElem? (i := 608) (by decide +kernel)) (by decide +kernel), sp_inT (List.mem_of_getElem? (i := 609) (by decide +kernel)) (by decide +kernel)⟩, ⟨by decide +kernel, by decide +kernel⟩, by decide +kernel, by decide⟩
abbrev mX5_faces : sp_M := (yX5_faces, cX5_faces, 2, some .int)
theorem okX5_faces : sp_okV mX5_faces 1 := ⟨sp_inT (List.mem_of_getElem? (i := 626) (by decide +kernel)) (by decide +kernel), sp_inT (List.mem_of_getElem? (i := 60) (by decide +kernel)) (by decide +kernel), ⟨sp_inT (List.mem_of_getElem? (i := 624) (by decide +kernel)) (by decide +kernel), sp_inT (List.mem_of_getElem? (i := 625) (by decide +kernel)) (by decide +kernel)⟩, ⟨by decide +kernel, by decide +kernel⟩, by decide +kernel, by decide⟩
abbrev mX5_contest : sp_M := (yX5_contest, cX5_contest, 5, some .int)
theorem okX5_contest : sp_okV mX5_contest 3 := ⟨sp_inT (List.mem_of_getElem? (i := 675) (by decide +kernel)) (by decide +kernel), sp_inT (List.mem_of_getElem? (i := 60) (by decide +kernel)) (by decide +kernel), ⟨sp_inT (List.mem_of_getElem? (i := 673) (by decide +kernel)) (by decide +kernel), sp_inT (List.mem_of_getElem? (i := 674) (by decide +kernel)) (by decide +kernel)⟩, ⟨by decide +kernel, by decide +kernel⟩, by decide +kernel, by decide⟩
abbrev mX5_room : sp_M := (yX5_room, cX5_room, 3, some .int)
theorem okX5_room : sp_okV mX5_room 2 := ⟨sp_inT (List.mem_of_getElem? (i := 680) (by decide +kernel)) (by decide +kernel), sp_inT (List.mem_of_getElem? (i := 60) (by decide +kernel)) (by decide +kernel), ⟨sp_inT (List.mem_of_getElem? (i := 678) (by decide +kernel)) (by decide +kernel), sp_inT (List.mem_of_getElem? (i := 679) (by decide +kernel)) (by decide +kernel)⟩, ⟨by decide +kernel, by decide +kernel⟩, by decide +kernel, by decide⟩
abbrev mX5_rule : sp_M := (yX5_rule, cX5_rule, 6, some .int)
theorem okX5_rule : sp_okV mX5_rule 1 := ⟨sp_inT (List.mem_of_getElem? (i := 692) (by decide +kernel)) (by decide +kernel), sp_inT (List.mem_of_getElem? (i := 60) (by decide +kernel)) (by decide +kernel), ⟨sp_inT (List.mem_of_getElem? (i := 690) (by decide +kernel)) (by decide +kernel), sp_inT (List.mem_of_getElem? (i := 691) (by decide +kernel)) (by decide +kernel)⟩, ⟨by decide +kernel, by decide +kernel⟩, by decide +kernel, by decide⟩
abbrev mX5_leads : sp_M := (yX5_leads, cX5_leads, 3, some .int)
theorem okX5_leads : sp_okV mX5_leads 2 := ⟨sp_inT (List.mem_of_getElem? (i := 700) (by decide +kernel)) (by decide +kernel), sp_inT (List.mem_of_getElem? (i := 60) (by decide +kernel)) (by decide +kernel), ⟨sp_inT (List.mem_of_getElem? (i := 698) (by decide +kernel)) (by decide +kernel), sp_inT (List.mem_of_getElem? (i := 699) (by decide +kernel)) (by decide +kernel)⟩, ⟨by decide +kernel, by decide +kernel⟩, by decide +kernel, by decide⟩
abbrev mX5_lead : sp_M := (yX5_lead, cX5_lead, 4, some .int)
theorem okX5_lead : sp_okV mX5_lead 3 := ⟨sp_inT (List.mem_of_getElem? (i := 712) (by decide +kernel)) (by decide +kernel), sp_inT (List.mem_of_getElem? (i := 60) (by decide +kernel)) (by decide +kernel), ⟨sp_inT (List.mem_of_getElem? (i := 710) (by decide +kernel)) (by decide +kernel), sp_inT (List.mem_of_getElem? (i := 711) (by decide +kernel)) (by decide +kernel)⟩, ⟨by decide +kernel, by decide +kernel⟩, by decide +kernel, by decide⟩
abbrev mX5_fair : sp_M := (yX5_fair, cX5_fair, 8, some .int)
theorem okX5_fair : sp_okV mX5_fair 3 := ⟨sp_inT (List.mem_of_getElem? (i := 724) (by decide +kernel)) (by decide +kernel), sp_inT (List.mem_of_getElem? (i := 60) (by decide +kernel)) (by decide +kernel), ⟨sp_inT (List.mem_of_getElem? (i := 722) (by decide +kernel)) (by decide +kernel), sp_inT (List.mem_of_getElem? (i := 723) (by decide +kernel)) (by decide +kernel)⟩, ⟨by decide +kernel, by decide +kernel⟩, by decide +kernel, by decide⟩
abbrev mX5_place : sp_M := (yX5_place, cX5_place, 6, some .int)
theorem okX5_place : sp_okV mX5_place 3 := ⟨sp_inT (List.mem_of_getElem? (i := 730) (by decide +kernel)) (by decide +kernel), sp_inT (List.mem_of_getElem? (i := 60) (by decide +kernel)) (by decide +kernel), ⟨sp_inT (List.mem_of_getElem? (i := 728) (by decide +kernel)) (by decide +kernel), sp_inT (List.mem_of_getElem? (i := 729) (by decide +kernel)) (by decide +kernel)⟩, ⟨by decide +kernel, by decide +kernel⟩, by decide +kernel, by decide⟩
abbrev mX5_told : sp_M := (yX5_told, cX5_told, 2, some .int)
theorem okX5_told : sp_okV mX5_told 1 := ⟨sp_inT (List.mem_of_getElem? (i := 734) (by decide +kernel)) (by decide +kernel), sp_inT (List.mem_of_getElem? (i := 60) (by decide +kernel)) (by decide +kernel), ⟨sp_inT (List.mem_of_getElem? (i := 732) (by decide +kernel)) (by decide +kernel), sp_inT (List.mem_of_getElem? (i := 733) (by decide +kernel)) (by decide +kernel)⟩, ⟨by decide +kernel, by decide +kernel⟩, by decide +kernel, by decide⟩
abbrev mX5_digest : sp_M := (yX5_digest, cX5_digest, 5, some .long)
theorem okX5_digest : sp_okV mX5_digest 0 := ⟨sp_inT (List.mem_of_getElem? (i := 742) (by decide +kernel)) (by decide +kernel), sp_inT (List.mem_of_getElem? (i := 60) (by decide +kernel)) (by decide +kernel), ⟨sp_inT (List.mem_of_getElem? (i := 740) (by decide +kernel)) (by decide +kernel), sp_inT (List.mem_of_getElem? (i := 741) (by decide +kernel)) (by decide +kernel)⟩, ⟨by decide +kernel, by decide +kernel⟩, by decide +kernel, by decide⟩
abbrev mX5_counter : sp_M := (yX5_counter, cX5_counter, 2, some .int)
theorem okX5_counter : sp_okV mX5_counter 1 := ⟨sp_inT (List.mem_of_getElem? (i := 738) (by decide +kernel)) (by decide +kernel), sp_inT (List.mem_of_getElem? (i := 60) (by decide +kernel)) (by decide +kernel), ⟨sp_inT (List.mem_of_getElem? (i := 737) (by decide +kernel)) (by decide +kernel), sp_inT (List.mem_of_getElem? (i := 24) (by decide +kernel)) (by decide +kernel)⟩, ⟨by decide +kernel, by decide +kernel⟩, by decide +kernel, by decide⟩
abbrev mX5_refuseBad : sp_M := (yX5_refuseBad, cX5_refuseBad, 1, some .int)
theorem okX5_refuseBad : sp_okV mX5_refuseBad 0 := ⟨sp_inT (List.mem_of_getElem? (i := 268) (by decide +kernel)) (by decide +kernel), sp_inT (List.mem_of_getElem? (i := 60) (by decide +kernel)) (by decide +kernel), ⟨sp_inT (List.mem_of_getElem? (i := 267) (by decide +kernel)) (by decide +kernel), sp_inT (List.mem_of_getElem? (i := 0) (by decide +kernel)) (by decide +kernel)⟩, ⟨by decide +kernel, by decide +kernel⟩, by decide +kernel, by decide⟩
abbrev mX5_refuseNo : sp_M := (yX5_refuseNo, cX5_refuseNo, 1, some .int)
theorem okX5_refuseNo : sp_okV mX5_refuseNo 0 := ⟨sp_inT (List.mem_of_getElem? (i := 364) (by decide +kernel)) (by decide +kernel), sp_inT (List.mem_of_getElem? (i := 60) (by decide +kernel)) (by decide +kernel), ⟨sp_inT (List.mem_of_getElem? (i := 363) (by decide +kernel)) (by decide +kernel), sp_inT (List.mem_of_getElem? (i := 1) (by decide +kernel)) (by decide +kernel)⟩, ⟨by decide +kernel, by decide +kernel⟩, by decide +kernel, by decide⟩
abbrev mX5_refuseFull : sp_M := (yX5_refuseFull, cX5_refuseFull, 1, some .int)
theorem okX5_refuseFull : sp_okV mX5_refuseFull 0 := ⟨sp_inT (List.mem_of_getElem? (i := 401) (by decide +kernel)) (by decide +kernel), sp_inT (List.mem_of_getElem? (i := 60) (by decide +kernel)) (by decide +kernel), ⟨sp_inT (List.mem_of_getElem? (i := 400) (by decide +kernel)) (by decide +kernel), sp_inT (List.mem_of_getElem? (i := 4) (by decide +kernel)) (by decide +kernel)⟩, ⟨by decide +kernel, by decide +kernel⟩, by decide +kernel, by decide⟩
abbrev mX5_within : sp_M := (yX5_within, cX5_within, 3, some .boolean)
theorem okX5_within : sp_okS mX5_within 3 := ⟨sp_inT (List.mem_of_getElem? (i := 264) (by decide +kernel)) (by decide +kernel), sp_inT (List.mem_of_getElem? (i := 60) (by decide +kernel)) (by decide +kernel), sp_inT (List.mem_of_getElem? (i := 263) (by decide +kernel)) (by decide +kernel), ⟨by decide +kernel, by decide +kernel⟩, by decide +kernel, by decide⟩
abbrev mX5_isLayer : sp_M := (yX5_isLayer, cX5_isLayer, 1, some .boolean)
theorem okX5_isLayer : sp_okS mX5_isLayer 1 := ⟨sp_inT (List.mem_of_getElem? (i := 261) (by decide +kernel)) (by decide +kernel), sp_inT (List.mem_of_getElem? (i := 60) (by decide +kernel)) (by decide +kernel), sp_inT (List.mem_of_getElem? (i := 260) (by decide +kernel)) (by decide +kernel), ⟨by decide +kernel, by decide +kernel⟩, by decide +kernel, by decide⟩
abbrev mX5_isDistrict : sp_M := (yX5_isDistrict, cX5_isDistrict, 1, some .boolean)
theorem okX5_isDistrict : sp_okS mX5_isDistrict 1 := ⟨sp_inT (List.mem_of_getElem? (i := 293) (by decide +kernel)) (by decide +kernel), sp_inT (List.mem_of_getElem? (i := 60) (by decide +kernel)) (by decide +kernel), sp_inT (List.mem_of_getElem? (i := 292) (by decide +kernel)) (by decide +kernel), ⟨by decide +kernel, by decide +kernel⟩, by decide +kernel, by decide⟩
abbrev mX5_isBlock : sp_M := (yX5_isBlock, cX5_isBlock, 1, some .boolean)
theorem okX5_isBlock : sp_okS mX5_isBlock 1 := ⟨sp_inT (List.mem_of_getElem? (i := 299) (by decide +kernel)) (by decide +kernel), sp_inT (List.mem_of_getElem? (i := 60) (by decide +kernel)) (by decide +kernel), sp_inT (List.mem_of_getElem? (i := 298) (by decide +kernel)) (by decide +kernel), ⟨by decide +kernel, by decide +kernel⟩, by decide +kernel, by decide⟩
abbrev mX5_isName : sp_M := (yX5_isName, cX5_isName, 1, some .boolean)
theorem okX5_isName : sp_okS mX5_isName 1 := ⟨sp_inT (List.mem_of_getElem? (i := 715) (by decide +kernel)) (by decide +kernel), sp_inT (List.mem_of_getElem? (i := 60) (by decide +kernel)) (by decide +kernel), sp_inT (List.mem_of_getElem? (i := 714) (by decide +kernel)) (by decide +kernel), ⟨by decide +kernel, by decide +kernel⟩, by decide +kernel, by decide⟩
abbrev mX5_isRectangle : sp_M := (yX5_isRectangle, cX5_isRectangle, 2, some .boolean)
theorem okX5_isRectangle : sp_okS mX5_isRectangle 2 := ⟨sp_inT (List.mem_of_getElem? (i := 296) (by decide +kernel)) (by decide +kernel), sp_inT (List.mem_of_getElem? (i := 60) (by decide +kernel)) (by decide +kernel), sp_inT (List.mem_of_getElem? (i := 295) (by decide +kernel)) (by decide +kernel), ⟨by decide +kernel, by decide +kernel⟩, by decide +kernel, by decide⟩
abbrev mX5_isStyle : sp_M := (yX5_isStyle, cX5_isStyle, 2, some .boolean)
theorem okX5_isStyle : sp_okV mX5_isStyle 1 := ⟨sp_inT (List.mem_of_getElem? (i := 536) (by decide +kernel)) (by decide +kernel), sp_inT (List.mem_of_getElem? (i := 60) (by decide +kernel)) (by decide +kernel), ⟨sp_inT (List.mem_of_getElem? (i := 535) (by decide +kernel)) (by decide +kernel), sp_inT (List.mem_of_getElem? (i := 11) (by decide +kernel)) (by decide +kernel)⟩, ⟨by decide +kernel, by decide +kernel⟩, by decide +kernel, by decide⟩
abbrev mX5_sortStyles : sp_M := (yX5_sortStyles, cX5_sortStyles, 1, none)
theorem okX5_sortStyles : sp_okV mX5_sortStyles 0 := ⟨sp_inT (List.mem_of_getElem? (i := 376) (by decide +kernel)) (by decide +kernel), sp_inT (List.mem_of_getElem? (i := 60) (by decide +kernel)) (by decide +kernel), ⟨sp_inT (List.mem_of_getElem? (i := 375) (by decide +kernel)) (by decide +kernel), sp_inT (List.mem_of_getElem? (i := 2) (by decide +kernel)) (by decide +kernel)⟩, ⟨by decide +kernel, by decide +kernel⟩, by decide +kernel, by decide⟩
abbrev mX5_sheetsOf : sp_M := (yX5_sheetsOf, cX5_sheetsOf, 3, some .int)
theorem okX5_sheetsOf : sp_okV mX5_sheetsOf 2 := ⟨sp_inT (List.mem_of_getElem? (i := 630) (by decide +kernel)) (by decide +kernel), sp_inT (List.mem_of_getElem? (i := 60) (by decide +kernel)) (by decide +kernel), ⟨sp_inT (List.mem_of_getElem? (i := 629) (by decide +kernel)) (by decide +kernel), sp_inT (List.mem_of_getElem? (i := 13) (by decide +kernel)) (by decide +kernel)⟩, ⟨by decide +kernel, by decide +kernel⟩, by decide +kernel, by decide⟩
abbrev mX5_sheetsOfAll : sp_M := (yX5_sheetsOfAll, cX5_sheetsOfAll, 4, some .int)
theorem okX5_sheetsOfAll : sp_okV mX5_sheetsOfAll 1 := ⟨sp_inT (List.mem_of_getElem? (i := 684) (by decide +kernel)) (by decide +kernel), sp_inT (List.mem_of_getElem? (i := 60) (by decide +kernel)) (by decide +kernel), ⟨sp_inT (List.mem_of_getElem? (i := 683) (by decide +kernel)) (by decide +kernel), sp_inT (List.mem_of_getElem? (i := 21) (by decide +kernel)) (by decide +kernel)⟩, ⟨by decide +kernel, by decide +kernel⟩, by decide +kernel, by decide⟩
abbrev mX5_hasBareStyle : sp_M := (yX5_hasBareStyle, cX5_hasBareStyle, 2, some .boolean)
theorem okX5_hasBareStyle : sp_okV mX5_hasBareStyle 0 := ⟨sp_inT (List.mem_of_getElem? (i := 696) (by decide +kernel)) (by decide +kernel), sp_inT (List.mem_of_getElem? (i := 60) (by decide +kernel)) (by decide +kernel), ⟨sp_inT (List.mem_of_getElem? (i := 695) (by decide +kernel)) (by decide +kernel), sp_inT (List.mem_of_getElem? (i := 22) (by decide +kernel)) (by decide +kernel)⟩, ⟨by decide +kernel, by decide +kernel⟩, by decide +kernel, by decide⟩
abbrev mX6_init : sp_M := (yX6_init, cX6_init, 2, none)
abbrev mX6_in : sp_M := (yX6_in, cX6_in, 3, some .boolean)
theorem okX6_in : sp_okS mX6_in 3 := ⟨sp_inT (List.mem_of_getElem? (i := 822) (by decide +kernel)) (by decide +kernel), sp_inT (List.mem_of_getElem? (i := 66) (by decide +kernel)) (by decide +kernel), sp_inT (List.mem_of_getElem? (i := 821) (by decide +kernel)) (by decide +kernel), ⟨by decide +kernel, by decide +kernel⟩, by decide +kernel, by decide⟩
abbrev mX6_refuses : sp_M := (yX6_refuses, cX6_refuses, 2, some .int)
theorem okX6_refuses : sp_okV mX6_refuses 1 := ⟨sp_inT (List.mem_of_getElem? (i := 826) (by decide +kernel)) (by decide +kernel), sp_inT (List.mem_of_getElem? (i := 66) (by decide +kernel)) (by decide +kernel), ⟨sp_inT (List.mem_of_getElem? (i := 825) (by decide +kernel)) (by decide +kernel), sp_inT (List.mem_of_getElem? (i := 25) (by decide +kernel)) (by decide +kernel)⟩, ⟨by decide +kernel, by decide +kernel⟩, by decide +kernel, by decide⟩
abbrev mX6_isBlock : sp_M := (yX6_isBlock, cX6_isBlock, 1, some .boolean)
theorem okX6_isBlock : sp_okS mX6_isBlock 1 := ⟨sp_inT (List.mem_of_getElem? (i := 848) (by decide +kernel)) (by decide +kernel), sp_inT (List.mem_of_getElem? (i := 66) (by decide +kernel)) (by decide +kernel), sp_inT (List.mem_of_getElem? (i := 847) (by decide +kernel)) (by decide +kernel), ⟨by decide +kernel, by decide +kernel⟩, by decide +kernel, by decide⟩
abbrev mX6_isLayer : sp_M := (yX6_isLayer, cX6_isLayer, 1, some .boolean)
theorem okX6_isLayer : sp_okS mX6_isLayer 1 := ⟨sp_inT (List.mem_of_getElem? (i := 819) (by decide +kernel)) (by decide +kernel), sp_inT (List.mem_of_getElem? (i := 66) (by decide +kernel)) (by decide +kernel), sp_inT (List.mem_of_getElem? (i := 818) (by decide +kernel)) (by decide +kernel), ⟨by decide +kernel, by decide +kernel⟩, by decide +kernel, by decide⟩
abbrev mX6_isDistrict : sp_M := (yX6_isDistrict, cX6_isDistrict, 1, some .boolean)
theorem okX6_isDistrict : sp_okS mX6_isDistrict 1 := ⟨sp_inT (List.mem_of_getElem? (i := 845) (by decide +kernel)) (by decide +kernel), sp_inT (List.mem_of_getElem? (i := 66) (by decide +kernel)) (by decide +kernel), sp_inT (List.mem_of_getElem? (i := 844) (by decide +kernel)) (by decide +kernel), ⟨by decide +kernel, by decide +kernel⟩, by decide +kernel, by decide⟩
abbrev mX6_district : sp_M := (yX6_district, cX6_district, 3, some .int)
theorem okX6_district : sp_okV mX6_district 2 := ⟨sp_inT (List.mem_of_getElem? (i := 859) (by decide +kernel)) (by decide +kernel), sp_inT (List.mem_of_getElem? (i := 66) (by decide +kernel)) (by decide +kernel), ⟨sp_inT (List.mem_of_getElem? (i := 858) (by decide +kernel)) (by decide +kernel), sp_inT (List.mem_of_getElem? (i := 30) (by decide +kernel)) (by decide +kernel)⟩, ⟨by decide +kernel, by decide +kernel⟩, by decide +kernel, by decide⟩
abbrev mX6_namesOf : sp_M := (yX6_namesOf, cX6_namesOf, 3, some .int)
theorem okX6_namesOf : sp_okV mX6_namesOf 2 := ⟨sp_inT (List.mem_of_getElem? (i := 1029) (by decide +kernel)) (by decide +kernel), sp_inT (List.mem_of_getElem? (i := 66) (by decide +kernel)) (by decide +kernel), ⟨sp_inT (List.mem_of_getElem? (i := 1028) (by decide +kernel)) (by decide +kernel), sp_inT (List.mem_of_getElem? (i := 52) (by decide +kernel)) (by decide +kernel)⟩, ⟨by decide +kernel, by decide +kernel⟩, by decide +kernel, by decide⟩
abbrev mX6_isOn : sp_M := (yX6_isOn, cX6_isOn, 2, some .boolean)
theorem okX6_isOn : sp_okV mX6_isOn 1 := ⟨sp_inT (List.mem_of_getElem? (i := 838) (by decide +kernel)) (by decide +kernel), sp_inT (List.mem_of_getElem? (i := 66) (by decide +kernel)) (by decide +kernel), ⟨sp_inT (List.mem_of_getElem? (i := 837) (by decide +kernel)) (by decide +kernel), sp_inT (List.mem_of_getElem? (i := 28) (by decide +kernel)) (by decide +kernel)⟩, ⟨by decide +kernel, by decide +kernel⟩, by decide +kernel, by decide⟩
abbrev mX6_keeps : sp_M := (yX6_keeps, cX6_keeps, 2, none)
theorem okX6_keeps : sp_okV mX6_keeps 0 := ⟨sp_inT (List.mem_of_getElem? (i := 830) (by decide +kernel)) (by decide +kernel), sp_inT (List.mem_of_getElem? (i := 66) (by decide +kernel)) (by decide +kernel), ⟨sp_inT (List.mem_of_getElem? (i := 829) (by decide +kernel)) (by decide +kernel), sp_inT (List.mem_of_getElem? (i := 26) (by decide +kernel)) (by decide +kernel)⟩, ⟨by decide +kernel, by decide +kernel⟩, by decide +kernel, by decide⟩
abbrev mX6_turns : sp_M := (yX6_turns, cX6_turns, 4, some .int)
theorem okX6_turns : sp_okV mX6_turns 2 := ⟨sp_inT (List.mem_of_getElem? (i := 834) (by decide +kernel)) (by decide +kernel), sp_inT (List.mem_of_getElem? (i := 66) (by decide +kernel)) (by decide +kernel), ⟨sp_inT (List.mem_of_getElem? (i := 833) (by decide +kernel)) (by decide +kernel), sp_inT (List.mem_of_getElem? (i := 27) (by decide +kernel)) (by decide +kernel)⟩, ⟨by decide +kernel, by decide +kernel⟩, by decide +kernel, by decide⟩
abbrev mX6_on : sp_M := (yX6_on, cX6_on, 3, some .int)
theorem okX6_on : sp_okV mX6_on 2 := ⟨sp_inT (List.mem_of_getElem? (i := 816) (by decide +kernel)) (by decide +kernel), sp_inT (List.mem_of_getElem? (i := 66) (by decide +kernel)) (by decide +kernel), ⟨sp_inT (List.mem_of_getElem? (i := 814) (by decide +kernel)) (by decide +kernel), sp_inT (List.mem_of_getElem? (i := 815) (by decide +kernel)) (by decide +kernel)⟩, ⟨by decide +kernel, by decide +kernel⟩, by decide +kernel, by decide⟩
abbrev mX6_isRectangle : sp_M := (yX6_isRectangle, cX6_isRectangle, 2, some .boolean)
theorem okX6_isRectangle : sp_okS mX6_isRectangle 2 := ⟨sp_inT (List.mem_of_getElem? (i := 851) (by decide +kernel)) (by decide +kernel), sp_inT (List.mem_of_getElem? (i := 66) (by decide +kernel)) (by decide +kernel), sp_inT (List.mem_of_getElem? (i := 850) (by decide +kernel)) (by decide +kernel), ⟨by decide +kernel, by decide +kernel⟩, by decide +kernel, by decide⟩
abbrev mX6_lays : sp_M := (yX6_lays, cX6_lays, 7, some .int)
theorem okX6_lays : sp_okV mX6_lays 4 := ⟨sp_inT (List.mem_of_getElem? (i := 855) (by decide +kernel)) (by decide +kernel), sp_inT (List.mem_of_getElem? (i := 66) (by decide +kernel)) (by decide +kernel), ⟨sp_inT (List.mem_of_getElem? (i := 854) (by decide +kernel)) (by decide +kernel), sp_inT (List.mem_of_getElem? (i := 29) (by decide +kernel)) (by decide +kernel)⟩, ⟨by decide +kernel, by decide +kernel⟩, by decide +kernel, by decide⟩
abbrev mX6_puts : sp_M := (yX6_puts, cX6_puts, 5, some .int)
theorem okX6_puts : sp_okV mX6_puts 4 := ⟨sp_inT (List.mem_of_getElem? (i := 842) (by decide +kernel)) (by decide +kernel), sp_inT (List.mem_of_getElem? (i := 66) (by decide +kernel)) (by decide +kernel), ⟨sp_inT (List.mem_of_getElem? (i := 840) (by decide +kernel)) (by decide +kernel), sp_inT (List.mem_of_getElem? (i := 841) (by decide +kernel)) (by decide +kernel)⟩, ⟨by decide +kernel, by decide +kernel⟩, by decide +kernel, by decide⟩
abbrev mX6_becomes : sp_M := (yX6_becomes, cX6_becomes, 4, some .int)
theorem okX6_becomes : sp_okV mX6_becomes 2 := ⟨sp_inT (List.mem_of_getElem? (i := 867) (by decide +kernel)) (by decide +kernel), sp_inT (List.mem_of_getElem? (i := 66) (by decide +kernel)) (by decide +kernel), ⟨sp_inT (List.mem_of_getElem? (i := 866) (by decide +kernel)) (by decide +kernel), sp_inT (List.mem_of_getElem? (i := 31) (by decide +kernel)) (by decide +kernel)⟩, ⟨by decide +kernel, by decide +kernel⟩, by decide +kernel, by decide⟩
abbrev mX6_names : sp_M := (yX6_names, cX6_names, 4, some .int)
theorem okX6_names : sp_okV mX6_names 3 := ⟨sp_inT (List.mem_of_getElem? (i := 863) (by decide +kernel)) (by decide +kernel), sp_inT (List.mem_of_getElem? (i := 66) (by decide +kernel)) (by decide +kernel), ⟨sp_inT (List.mem_of_getElem? (i := 861) (by decide +kernel)) (by decide +kernel), sp_inT (List.mem_of_getElem? (i := 862) (by decide +kernel)) (by decide +kernel)⟩, ⟨by decide +kernel, by decide +kernel⟩, by decide +kernel, by decide⟩
abbrev mX6_voters : sp_M := (yX6_voters, cX6_voters, 3, some .int)
theorem okX6_voters : sp_okV mX6_voters 2 := ⟨sp_inT (List.mem_of_getElem? (i := 871) (by decide +kernel)) (by decide +kernel), sp_inT (List.mem_of_getElem? (i := 66) (by decide +kernel)) (by decide +kernel), ⟨sp_inT (List.mem_of_getElem? (i := 869) (by decide +kernel)) (by decide +kernel), sp_inT (List.mem_of_getElem? (i := 870) (by decide +kernel)) (by decide +kernel)⟩, ⟨by decide +kernel, by decide +kernel⟩, by decide +kernel, by decide⟩
abbrev mX6_draw : sp_M := (yX6_draw, cX6_draw, 8, some .int)
theorem okX6_draw : sp_okV mX6_draw 3 := ⟨sp_inT (List.mem_of_getElem? (i := 875) (by decide +kernel)) (by decide +kernel), sp_inT (List.mem_of_getElem? (i := 66) (by decide +kernel)) (by decide +kernel), ⟨sp_inT (List.mem_of_getElem? (i := 873) (by decide +kernel)) (by decide +kernel), sp_inT (List.mem_of_getElem? (i := 874) (by decide +kernel)) (by decide +kernel)⟩, ⟨by decide +kernel, by decide +kernel⟩, by decide +kernel, by decide⟩
abbrev mX6_follows : sp_M := (yX6_follows, cX6_follows, 7, some .int)
theorem okX6_follows : sp_okV mX6_follows 3 := ⟨sp_inT (List.mem_of_getElem? (i := 886) (by decide +kernel)) (by decide +kernel), sp_inT (List.mem_of_getElem? (i := 66) (by decide +kernel)) (by decide +kernel), ⟨sp_inT (List.mem_of_getElem? (i := 884) (by decide +kernel)) (by decide +kernel), sp_inT (List.mem_of_getElem? (i := 885) (by decide +kernel)) (by decide +kernel)⟩, ⟨by decide +kernel, by decide +kernel⟩, by decide +kernel, by decide⟩
abbrev mX6_undo : sp_M := (yX6_undo, cX6_undo, 2, some .int)
theorem okX6_undo : sp_okV mX6_undo 0 := ⟨sp_inT (List.mem_of_getElem? (i := 890) (by decide +kernel)) (by decide +kernel), sp_inT (List.mem_of_getElem? (i := 66) (by decide +kernel)) (by decide +kernel), ⟨sp_inT (List.mem_of_getElem? (i := 888) (by decide +kernel)) (by decide +kernel), sp_inT (List.mem_of_getElem? (i := 889) (by decide +kernel)) (by decide +kernel)⟩, ⟨by decide +kernel, by decide +kernel⟩, by decide +kernel, by decide⟩
abbrev mX6_of : sp_M := (yX6_of, cX6_of, 3, some .int)
theorem okX6_of : sp_okV mX6_of 2 := ⟨sp_inT (List.mem_of_getElem? (i := 894) (by decide +kernel)) (by decide +kernel), sp_inT (List.mem_of_getElem? (i := 66) (by decide +kernel)) (by decide +kernel), ⟨sp_inT (List.mem_of_getElem? (i := 892) (by decide +kernel)) (by decide +kernel), sp_inT (List.mem_of_getElem? (i := 893) (by decide +kernel)) (by decide +kernel)⟩, ⟨by decide +kernel, by decide +kernel⟩, by decide +kernel, by decide⟩
abbrev mX6_type : sp_M := (yX6_type, cX6_type, 2, some .int)
theorem okX6_type : sp_okV mX6_type 1 := ⟨sp_inT (List.mem_of_getElem? (i := 906) (by decide +kernel)) (by decide +kernel), sp_inT (List.mem_of_getElem? (i := 66) (by decide +kernel)) (by decide +kernel), ⟨sp_inT (List.mem_of_getElem? (i := 904) (by decide +kernel)) (by decide +kernel), sp_inT (List.mem_of_getElem? (i := 905) (by decide +kernel)) (by decide +kernel)⟩, ⟨by decide +kernel, by decide +kernel⟩, by decide +kernel, by decide⟩
abbrev mX6_clear : sp_M := (yX6_clear, cX6_clear, 2, some .int)
theorem okX6_clear : sp_okV mX6_clear 0 := ⟨sp_inT (List.mem_of_getElem? (i := 910) (by decide +kernel)) (by decide +kernel), sp_inT (List.mem_of_getElem? (i := 66) (by decide +kernel)) (by decide +kernel), ⟨sp_inT (List.mem_of_getElem? (i := 908) (by decide +kernel)) (by decide +kernel), sp_inT (List.mem_of_getElem? (i := 909) (by decide +kernel)) (by decide +kernel)⟩, ⟨by decide +kernel, by decide +kernel⟩, by decide +kernel, by decide⟩
abbrev mX6_byteAt : sp_M := (yX6_byteAt, cX6_byteAt, 2, some .int)
theorem okX6_byteAt : sp_okV mX6_byteAt 1 := ⟨sp_inT (List.mem_of_getElem? (i := 926) (by decide +kernel)) (by decide +kernel), sp_inT (List.mem_of_getElem? (i := 66) (by decide +kernel)) (by decide +kernel), ⟨sp_inT (List.mem_of_getElem? (i := 925) (by decide +kernel)) (by decide +kernel), sp_inT (List.mem_of_getElem? (i := 36) (by decide +kernel)) (by decide +kernel)⟩, ⟨by decide +kernel, by decide +kernel⟩, by decide +kernel, by decide⟩
abbrev mX6_skips : sp_M := (yX6_skips, cX6_skips, 1, none)
theorem okX6_skips : sp_okV mX6_skips 0 := ⟨sp_inT (List.mem_of_getElem? (i := 922) (by decide +kernel)) (by decide +kernel), sp_inT (List.mem_of_getElem? (i := 66) (by decide +kernel)) (by decide +kernel), ⟨sp_inT (List.mem_of_getElem? (i := 921) (by decide +kernel)) (by decide +kernel), sp_inT (List.mem_of_getElem? (i := 35) (by decide +kernel)) (by decide +kernel)⟩, ⟨by decide +kernel, by decide +kernel⟩, by decide +kernel, by decide⟩
abbrev mX6_isNumber : sp_M := (yX6_isNumber, cX6_isNumber, 7, some .boolean)
theorem okX6_isNumber : sp_okV mX6_isNumber 3 := ⟨sp_inT (List.mem_of_getElem? (i := 942) (by decide +kernel)) (by decide +kernel), sp_inT (List.mem_of_getElem? (i := 66) (by decide +kernel)) (by decide +kernel), ⟨sp_inT (List.mem_of_getElem? (i := 941) (by decide +kernel)) (by decide +kernel), sp_inT (List.mem_of_getElem? (i := 40) (by decide +kernel)) (by decide +kernel)⟩, ⟨by decide +kernel, by decide +kernel⟩, by decide +kernel, by decide⟩
abbrev mX6_isWord : sp_M := (yX6_isWord, cX6_isWord, 5, some .boolean)
theorem okX6_isWord : sp_okV mX6_isWord 2 := ⟨sp_inT (List.mem_of_getElem? (i := 938) (by decide +kernel)) (by decide +kernel), sp_inT (List.mem_of_getElem? (i := 66) (by decide +kernel)) (by decide +kernel), ⟨sp_inT (List.mem_of_getElem? (i := 937) (by decide +kernel)) (by decide +kernel), sp_inT (List.mem_of_getElem? (i := 39) (by decide +kernel)) (by decide +kernel)⟩, ⟨by decide +kernel, by decide +kernel⟩, by decide +kernel, by decide⟩
abbrev mX6_word : sp_M := (yX6_word, cX6_word, 4, some .int)
theorem okX6_word : sp_okV mX6_word 0 := ⟨sp_inT (List.mem_of_getElem? (i := 934) (by decide +kernel)) (by decide +kernel), sp_inT (List.mem_of_getElem? (i := 66) (by decide +kernel)) (by decide +kernel), ⟨sp_inT (List.mem_of_getElem? (i := 933) (by decide +kernel)) (by decide +kernel), sp_inT (List.mem_of_getElem? (i := 38) (by decide +kernel)) (by decide +kernel)⟩, ⟨by decide +kernel, by decide +kernel⟩, by decide +kernel, by decide⟩
abbrev mX6_isEnd : sp_M := (yX6_isEnd, cX6_isEnd, 3, some .boolean)
theorem okX6_isEnd : sp_okV mX6_isEnd 0 := ⟨sp_inT (List.mem_of_getElem? (i := 946) (by decide +kernel)) (by decide +kernel), sp_inT (List.mem_of_getElem? (i := 66) (by decide +kernel)) (by decide +kernel), ⟨sp_inT (List.mem_of_getElem? (i := 945) (by decide +kernel)) (by decide +kernel), sp_inT (List.mem_of_getElem? (i := 41) (by decide +kernel)) (by decide +kernel)⟩, ⟨by decide +kernel, by decide +kernel⟩, by decide +kernel, by decide⟩
abbrev mX6_order : sp_M := (yX6_order, cX6_order, 3, some .int)
theorem okX6_order : sp_okV mX6_order 0 := ⟨sp_inT (List.mem_of_getElem? (i := 930) (by decide +kernel)) (by decide +kernel), sp_inT (List.mem_of_getElem? (i := 66) (by decide +kernel)) (by decide +kernel), ⟨sp_inT (List.mem_of_getElem? (i := 929) (by decide +kernel)) (by decide +kernel), sp_inT (List.mem_of_getElem? (i := 37) (by decide +kernel)) (by decide +kernel)⟩, ⟨by decide +kernel, by decide +kernel⟩, by decide +kernel, by decide⟩
abbrev mX6_done : sp_M := (yX6_done, cX6_done, 2, none)
theorem okX6_done : sp_okV mX6_done 1 := ⟨sp_inT (List.mem_of_getElem? (i := 950) (by decide +kernel)) (by decide +kernel), sp_inT (List.mem_of_getElem? (i := 66) (by decide +kernel)) (by decide +kernel), ⟨sp_inT (List.mem_of_getElem? (i := 949) (by decide +kernel)) (by decide +kernel), sp_inT (List.mem_of_getElem? (i := 42) (by decide +kernel)) (by decide +kernel)⟩, ⟨by decide +kernel, by decide +kernel⟩, by decide +kernel, by decide⟩
abbrev mX6_goesThrough : sp_M := (yX6_goesThrough, cX6_goesThrough, 4, some .int)
theorem okX6_goesThrough : sp_okV mX6_goesThrough 1 := ⟨sp_inT (List.mem_of_getElem? (i := 918) (by decide +kernel)) (by decide +kernel), sp_inT (List.mem_of_getElem? (i := 66) (by decide +kernel)) (by decide +kernel), ⟨sp_inT (List.mem_of_getElem? (i := 917) (by decide +kernel)) (by decide +kernel), sp_inT (List.mem_of_getElem? (i := 34) (by decide +kernel)) (by decide +kernel)⟩, ⟨by decide +kernel, by decide +kernel⟩, by decide +kernel, by decide⟩
abbrev mX6_does : sp_M := (yX6_does, cX6_does, 1, some .int)
theorem okX6_does : sp_okV mX6_does 0 := ⟨sp_inT (List.mem_of_getElem? (i := 914) (by decide +kernel)) (by decide +kernel), sp_inT (List.mem_of_getElem? (i := 66) (by decide +kernel)) (by decide +kernel), ⟨sp_inT (List.mem_of_getElem? (i := 912) (by decide +kernel)) (by decide +kernel), sp_inT (List.mem_of_getElem? (i := 913) (by decide +kernel)) (by decide +kernel)⟩, ⟨by decide +kernel, by decide +kernel⟩, by decide +kernel, by decide⟩
abbrev mX6_isLike : sp_M := (yX6_isLike, cX6_isLike, 5, some .boolean)
theorem okX6_isLike : sp_okV mX6_isLike 2 := ⟨sp_inT (List.mem_of_getElem? (i := 902) (by decide +kernel)) (by decide +kernel), sp_inT (List.mem_of_getElem? (i := 66) (by decide +kernel)) (by decide +kernel), ⟨sp_inT (List.mem_of_getElem? (i := 901) (by decide +kernel)) (by decide +kernel), sp_inT (List.mem_of_getElem? (i := 33) (by decide +kernel)) (by decide +kernel)⟩, ⟨by decide +kernel, by decide +kernel⟩, by decide +kernel, by decide⟩
abbrev mX6_finds : sp_M := (yX6_finds, cX6_finds, 3, none)
theorem okX6_finds : sp_okV mX6_finds 0 := ⟨sp_inT (List.mem_of_getElem? (i := 898) (by decide +kernel)) (by decide +kernel), sp_inT (List.mem_of_getElem? (i := 66) (by decide +kernel)) (by decide +kernel), ⟨sp_inT (List.mem_of_getElem? (i := 897) (by decide +kernel)) (by decide +kernel), sp_inT (List.mem_of_getElem? (i := 32) (by decide +kernel)) (by decide +kernel)⟩, ⟨by decide +kernel, by decide +kernel⟩, by decide +kernel, by decide⟩
abbrev mX6_isStyle : sp_M := (yX6_isStyle, cX6_isStyle, 2, some .boolean)
theorem okX6_isStyle : sp_okV mX6_isStyle 1 := ⟨sp_inT (List.mem_of_getElem? (i := 962) (by decide +kernel)) (by decide +kernel), sp_inT (List.mem_of_getElem? (i := 66) (by decide +kernel)) (by decide +kernel), ⟨sp_inT (List.mem_of_getElem? (i := 961) (by decide +kernel)) (by decide +kernel), sp_inT (List.mem_of_getElem? (i := 43) (by decide +kernel)) (by decide +kernel)⟩, ⟨by decide +kernel, by decide +kernel⟩, by decide +kernel, by decide⟩
abbrev mX6_styles : sp_M := (yX6_styles, cX6_styles, 1, some .int)
theorem okX6_styles : sp_okV mX6_styles 0 := ⟨sp_inT (List.mem_of_getElem? (i := 954) (by decide +kernel)) (by decide +kernel), sp_inT (List.mem_of_getElem? (i := 66) (by decide +kernel)) (by decide +kernel), ⟨sp_inT (List.mem_of_getElem? (i := 952) (by decide +kernel)) (by decide +kernel), sp_inT (List.mem_of_getElem? (i := 953) (by decide +kernel)) (by decide +kernel)⟩, ⟨by decide +kernel, by decide +kernel⟩, by decide +kernel, by decide⟩
abbrev mX6_votersOf : sp_M := (yX6_votersOf, cX6_votersOf, 4, some .int)
theorem okX6_votersOf : sp_okV mX6_votersOf 1 := ⟨sp_inT (List.mem_of_getElem? (i := 970) (by decide +kernel)) (by decide +kernel), sp_inT (List.mem_of_getElem? (i := 66) (by decide +kernel)) (by decide +kernel), ⟨sp_inT (List.mem_of_getElem? (i := 969) (by decide +kernel)) (by decide +kernel), sp_inT (List.mem_of_getElem? (i := 45) (by decide +kernel)) (by decide +kernel)⟩, ⟨by decide +kernel, by decide +kernel⟩, by decide +kernel, by decide⟩
abbrev mX6_blocksOf : sp_M := (yX6_blocksOf, cX6_blocksOf, 4, some .int)
theorem okX6_blocksOf : sp_okV mX6_blocksOf 1 := ⟨sp_inT (List.mem_of_getElem? (i := 966) (by decide +kernel)) (by decide +kernel), sp_inT (List.mem_of_getElem? (i := 66) (by decide +kernel)) (by decide +kernel), ⟨sp_inT (List.mem_of_getElem? (i := 965) (by decide +kernel)) (by decide +kernel), sp_inT (List.mem_of_getElem? (i := 44) (by decide +kernel)) (by decide +kernel)⟩, ⟨by decide +kernel, by decide +kernel⟩, by decide +kernel, by decide⟩
abbrev mX6_isBeside : sp_M := (yX6_isBeside, cX6_isBeside, 2, some .boolean)
theorem okX6_isBeside : sp_okS mX6_isBeside 2 := ⟨sp_inT (List.mem_of_getElem? (i := 977) (by decide +kernel)) (by decide +kernel), sp_inT (List.mem_of_getElem? (i := 66) (by decide +kernel)) (by decide +kernel), sp_inT (List.mem_of_getElem? (i := 976) (by decide +kernel)) (by decide +kernel), ⟨by decide +kernel, by decide +kernel⟩, by decide +kernel, by decide⟩
abbrev mX6_partsOf : sp_M := (yX6_partsOf, cX6_partsOf, 7, some .int)
theorem okX6_partsOf : sp_okV mX6_partsOf 1 := ⟨sp_inT (List.mem_of_getElem? (i := 974) (by decide +kernel)) (by decide +kernel), sp_inT (List.mem_of_getElem? (i := 66) (by decide +kernel)) (by decide +kernel), ⟨sp_inT (List.mem_of_getElem? (i := 973) (by decide +kernel)) (by decide +kernel), sp_inT (List.mem_of_getElem? (i := 46) (by decide +kernel)) (by decide +kernel)⟩, ⟨by decide +kernel, by decide +kernel⟩, by decide +kernel, by decide⟩
abbrev mX6_contestsOn : sp_M := (yX6_contestsOn, cX6_contestsOn, 3, some .int)
theorem okX6_contestsOn : sp_okV mX6_contestsOn 0 := ⟨sp_inT (List.mem_of_getElem? (i := 981) (by decide +kernel)) (by decide +kernel), sp_inT (List.mem_of_getElem? (i := 66) (by decide +kernel)) (by decide +kernel), ⟨sp_inT (List.mem_of_getElem? (i := 980) (by decide +kernel)) (by decide +kernel), sp_inT (List.mem_of_getElem? (i := 47) (by decide +kernel)) (by decide +kernel)⟩, ⟨by decide +kernel, by decide +kernel⟩, by decide +kernel, by decide⟩
abbrev mX6_style : sp_M := (yX6_style, cX6_style, 3, some .int)
theorem okX6_style : sp_okV mX6_style 2 := ⟨sp_inT (List.mem_of_getElem? (i := 958) (by decide +kernel)) (by decide +kernel), sp_inT (List.mem_of_getElem? (i := 66) (by decide +kernel)) (by decide +kernel), ⟨sp_inT (List.mem_of_getElem? (i := 956) (by decide +kernel)) (by decide +kernel), sp_inT (List.mem_of_getElem? (i := 957) (by decide +kernel)) (by decide +kernel)⟩, ⟨by decide +kernel, by decide +kernel⟩, by decide +kernel, by decide⟩
abbrev mX6_without : sp_M := (yX6_without, cX6_without, 3, some .int)
theorem okX6_without : sp_okV mX6_without 1 := ⟨sp_inT (List.mem_of_getElem? (i := 985) (by decide +kernel)) (by decide +kernel), sp_inT (List.mem_of_getElem? (i := 66) (by decide +kernel)) (by decide +kernel), ⟨sp_inT (List.mem_of_getElem? (i := 983) (by decide +kernel)) (by decide +kernel), sp_inT (List.mem_of_getElem? (i := 984) (by decide +kernel)) (by decide +kernel)⟩, ⟨by decide +kernel, by decide +kernel⟩, by decide +kernel, by decide⟩
abbrev mX6_borderOf : sp_M := (yX6_borderOf, cX6_borderOf, 4, some .int)
theorem okX6_borderOf : sp_okV mX6_borderOf 0 := ⟨sp_inT (List.mem_of_getElem? (i := 993) (by decide +kernel)) (by decide +kernel), sp_inT (List.mem_of_getElem? (i := 66) (by decide +kernel)) (by decide +kernel), ⟨sp_inT (List.mem_of_getElem? (i := 992) (by decide +kernel)) (by decide +kernel), sp_inT (List.mem_of_getElem? (i := 48) (by decide +kernel)) (by decide +kernel)⟩, ⟨by decide +kernel, by decide +kernel⟩, by decide +kernel, by decide⟩
abbrev mX6_border : sp_M := (yX6_border, cX6_border, 1, some .int)
theorem okX6_border : sp_okV mX6_border 0 := ⟨sp_inT (List.mem_of_getElem? (i := 989) (by decide +kernel)) (by decide +kernel), sp_inT (List.mem_of_getElem? (i := 66) (by decide +kernel)) (by decide +kernel), ⟨sp_inT (List.mem_of_getElem? (i := 987) (by decide +kernel)) (by decide +kernel), sp_inT (List.mem_of_getElem? (i := 988) (by decide +kernel)) (by decide +kernel)⟩, ⟨by decide +kernel, by decide +kernel⟩, by decide +kernel, by decide⟩
abbrev mX6_beside : sp_M := (yX6_beside, cX6_beside, 6, some .int)
theorem okX6_beside : sp_okV mX6_beside 2 := ⟨sp_inT (List.mem_of_getElem? (i := 997) (by decide +kernel)) (by decide +kernel), sp_inT (List.mem_of_getElem? (i := 66) (by decide +kernel)) (by decide +kernel), ⟨sp_inT (List.mem_of_getElem? (i := 995) (by decide +kernel)) (by decide +kernel), sp_inT (List.mem_of_getElem? (i := 996) (by decide +kernel)) (by decide +kernel)⟩, ⟨by decide +kernel, by decide +kernel⟩, by decide +kernel, by decide⟩
abbrev mX6_unlike : sp_M := (yX6_unlike, cX6_unlike, 5, some .int)
theorem okX6_unlike : sp_okV mX6_unlike 2 := ⟨sp_inT (List.mem_of_getElem? (i := 1001) (by decide +kernel)) (by decide +kernel), sp_inT (List.mem_of_getElem? (i := 66) (by decide +kernel)) (by decide +kernel), ⟨sp_inT (List.mem_of_getElem? (i := 999) (by decide +kernel)) (by decide +kernel), sp_inT (List.mem_of_getElem? (i := 1000) (by decide +kernel)) (by decide +kernel)⟩, ⟨by decide +kernel, by decide +kernel⟩, by decide +kernel, by decide⟩
abbrev mX6_odd : sp_M := (yX6_odd, cX6_odd, 5, some .int)
theorem okX6_odd : sp_okV mX6_odd 1 := ⟨sp_inT (List.mem_of_getElem? (i := 1005) (by decide +kernel)) (by decide +kernel), sp_inT (List.mem_of_getElem? (i := 66) (by decide +kernel)) (by decide +kernel), ⟨sp_inT (List.mem_of_getElem? (i := 1003) (by decide +kernel)) (by decide +kernel), sp_inT (List.mem_of_getElem? (i := 1004) (by decide +kernel)) (by decide +kernel)⟩, ⟨by decide +kernel, by decide +kernel⟩, by decide +kernel, by decide⟩
abbrev mX6_paper : sp_M := (yX6_paper, cX6_paper, 5, some .int)
theorem okX6_paper : sp_okV mX6_paper 2 := ⟨sp_inT (List.mem_of_getElem? (i := 1009) (by decide +kernel)) (by decide +kernel), sp_inT (List.mem_of_getElem? (i := 66) (by decide +kernel)) (by decide +kernel), ⟨sp_inT (List.mem_of_getElem? (i := 1007) (by decide +kernel)) (by decide +kernel), sp_inT (List.mem_of_getElem? (i := 1008) (by decide +kernel)) (by decide +kernel)⟩, ⟨by decide +kernel, by decide +kernel⟩, by decide +kernel, by decide⟩
abbrev mX6_heightOf : sp_M := (yX6_heightOf, cX6_heightOf, 3, some .int)
theorem okX6_heightOf : sp_okV mX6_heightOf 2 := ⟨sp_inT (List.mem_of_getElem? (i := 1025) (by decide +kernel)) (by decide +kernel), sp_inT (List.mem_of_getElem? (i := 66) (by decide +kernel)) (by decide +kernel), ⟨sp_inT (List.mem_of_getElem? (i := 1024) (by decide +kernel)) (by decide +kernel), sp_inT (List.mem_of_getElem? (i := 51) (by decide +kernel)) (by decide +kernel)⟩, ⟨by decide +kernel, by decide +kernel⟩, by decide +kernel, by decide⟩
abbrev mX6_begins : sp_M := (yX6_begins, cX6_begins, 2, none)
theorem okX6_begins : sp_okV mX6_begins 0 := ⟨sp_inT (List.mem_of_getElem? (i := 1021) (by decide +kernel)) (by decide +kernel), sp_inT (List.mem_of_getElem? (i := 66) (by decide +kernel)) (by decide +kernel), ⟨sp_inT (List.mem_of_getElem? (i := 1020) (by decide +kernel)) (by decide +kernel), sp_inT (List.mem_of_getElem? (i := 50) (by decide +kernel)) (by decide +kernel)⟩, ⟨by decide +kernel, by decide +kernel⟩, by decide +kernel, by decide⟩
abbrev mX6_columnBy : sp_M := (yX6_columnBy, cX6_columnBy, 8, some .int)
theorem okX6_columnBy : sp_okV mX6_columnBy 3 := ⟨sp_inT (List.mem_of_getElem? (i := 1033) (by decide +kernel)) (by decide +kernel), sp_inT (List.mem_of_getElem? (i := 66) (by decide +kernel)) (by decide +kernel), ⟨sp_inT (List.mem_of_getElem? (i := 1032) (by decide +kernel)) (by decide +kernel), sp_inT (List.mem_of_getElem? (i := 53) (by decide +kernel)) (by decide +kernel)⟩, ⟨by decide +kernel, by decide +kernel⟩, by decide +kernel, by decide⟩
abbrev mX6_prints : sp_M := (yX6_prints, cX6_prints, 8, some .int)
theorem okX6_prints : sp_okV mX6_prints 2 := ⟨sp_inT (List.mem_of_getElem? (i := 1017) (by decide +kernel)) (by decide +kernel), sp_inT (List.mem_of_getElem? (i := 66) (by decide +kernel)) (by decide +kernel), ⟨sp_inT (List.mem_of_getElem? (i := 1016) (by decide +kernel)) (by decide +kernel), sp_inT (List.mem_of_getElem? (i := 49) (by decide +kernel)) (by decide +kernel)⟩, ⟨by decide +kernel, by decide +kernel⟩, by decide +kernel, by decide⟩
abbrev mX6_faces : sp_M := (yX6_faces, cX6_faces, 2, some .int)
theorem okX6_faces : sp_okV mX6_faces 1 := ⟨sp_inT (List.mem_of_getElem? (i := 1013) (by decide +kernel)) (by decide +kernel), sp_inT (List.mem_of_getElem? (i := 66) (by decide +kernel)) (by decide +kernel), ⟨sp_inT (List.mem_of_getElem? (i := 1011) (by decide +kernel)) (by decide +kernel), sp_inT (List.mem_of_getElem? (i := 1012) (by decide +kernel)) (by decide +kernel)⟩, ⟨by decide +kernel, by decide +kernel⟩, by decide +kernel, by decide⟩
abbrev mX6_contest : sp_M := (yX6_contest, cX6_contest, 5, some .int)
theorem okX6_contest : sp_okV mX6_contest 3 := ⟨sp_inT (List.mem_of_getElem? (i := 1037) (by decide +kernel)) (by decide +kernel), sp_inT (List.mem_of_getElem? (i := 66) (by decide +kernel)) (by decide +kernel), ⟨sp_inT (List.mem_of_getElem? (i := 1035) (by decide +kernel)) (by decide +kernel), sp_inT (List.mem_of_getElem? (i := 1036) (by decide +kernel)) (by decide +kernel)⟩, ⟨by decide +kernel, by decide +kernel⟩, by decide +kernel, by decide⟩
abbrev mX6_facesBy : sp_M := (yX6_facesBy, cX6_facesBy, 7, some .int)
theorem okX6_facesBy : sp_okV mX6_facesBy 2 := ⟨sp_inT (List.mem_of_getElem? (i := 1045) (by decide +kernel)) (by decide +kernel), sp_inT (List.mem_of_getElem? (i := 66) (by decide +kernel)) (by decide +kernel), ⟨sp_inT (List.mem_of_getElem? (i := 1044) (by decide +kernel)) (by decide +kernel), sp_inT (List.mem_of_getElem? (i := 54) (by decide +kernel)) (by decide +kernel)⟩, ⟨by decide +kernel, by decide +kernel⟩, by decide +kernel, by decide⟩
abbrev mX6_room : sp_M := (yX6_room, cX6_room, 5, some .int)
theorem okX6_room : sp_okV mX6_room 2 := ⟨sp_inT (List.mem_of_getElem? (i := 1041) (by decide +kernel)) (by decide +kernel), sp_inT (List.mem_of_getElem? (i := 66) (by decide +kernel)) (by decide +kernel), ⟨sp_inT (List.mem_of_getElem? (i := 1039) (by decide +kernel)) (by decide +kernel), sp_inT (List.mem_of_getElem? (i := 1040) (by decide +kernel)) (by decide +kernel)⟩, ⟨by decide +kernel, by decide +kernel⟩, by decide +kernel, by decide⟩
abbrev mX6_rule : sp_M := (yX6_rule, cX6_rule, 6, some .int)
theorem okX6_rule : sp_okV mX6_rule 1 := ⟨sp_inT (List.mem_of_getElem? (i := 1049) (by decide +kernel)) (by decide +kernel), sp_inT (List.mem_of_getElem? (i := 66) (by decide +kernel)) (by decide +kernel), ⟨sp_inT (List.mem_of_getElem? (i := 1047) (by decide +kernel)) (by decide +kernel), sp_inT (List.mem_of_getElem? (i := 1048) (by decide +kernel)) (by decide +kernel)⟩, ⟨by decide +kernel, by decide +kernel⟩, by decide +kernel, by decide⟩
abbrev mX6_rank : sp_M := (yX6_rank, cX6_rank, 5, some .int)
theorem okX6_rank : sp_okV mX6_rank 2 := ⟨sp_inT (List.mem_of_getElem? (i := 1061) (by decide +kernel)) (by decide +kernel), sp_inT (List.mem_of_getElem? (i := 66) (by decide +kernel)) (by decide +kernel), ⟨sp_inT (List.mem_of_getElem? (i := 1060) (by decide +kernel)) (by decide +kernel), sp_inT (List.mem_of_getElem? (i := 56) (by decide +kernel)) (by decide +kernel)⟩, ⟨by decide +kernel, by decide +kernel⟩, by decide +kernel, by decide⟩
abbrev mX6_leader : sp_M := (yX6_leader, cX6_leader, 3, some .int)
theorem okX6_leader : sp_okV mX6_leader 2 := ⟨sp_inT (List.mem_of_getElem? (i := 1057) (by decide +kernel)) (by decide +kernel), sp_inT (List.mem_of_getElem? (i := 66) (by decide +kernel)) (by decide +kernel), ⟨sp_inT (List.mem_of_getElem? (i := 1056) (by decide +kernel)) (by decide +kernel), sp_inT (List.mem_of_getElem? (i := 55) (by decide +kernel)) (by decide +kernel)⟩, ⟨by decide +kernel, by decide +kernel⟩, by decide +kernel, by decide⟩
abbrev mX6_leads : sp_M := (yX6_leads, cX6_leads, 3, some .int)
theorem okX6_leads : sp_okV mX6_leads 2 := ⟨sp_inT (List.mem_of_getElem? (i := 1053) (by decide +kernel)) (by decide +kernel), sp_inT (List.mem_of_getElem? (i := 66) (by decide +kernel)) (by decide +kernel), ⟨sp_inT (List.mem_of_getElem? (i := 1051) (by decide +kernel)) (by decide +kernel), sp_inT (List.mem_of_getElem? (i := 1052) (by decide +kernel)) (by decide +kernel)⟩, ⟨by decide +kernel, by decide +kernel⟩, by decide +kernel, by decide⟩
abbrev mX6_leadOf : sp_M := (yX6_leadOf, cX6_leadOf, 7, some .int)
theorem okX6_leadOf : sp_okV mX6_leadOf 4 := ⟨sp_inT (List.mem_of_getElem? (i := 1069) (by decide +kernel)) (by decide +kernel), sp_inT (List.mem_of_getElem? (i := 66) (by decide +kernel)) (by decide +kernel), ⟨sp_inT (List.mem_of_getElem? (i := 1068) (by decide +kernel)) (by decide +kernel), sp_inT (List.mem_of_getElem? (i := 57) (by decide +kernel)) (by decide +kernel)⟩, ⟨by decide +kernel, by decide +kernel⟩, by decide +kernel, by decide⟩
abbrev mX6_lead : sp_M := (yX6_lead, cX6_lead, 4, some .int)
theorem okX6_lead : sp_okV mX6_lead 3 := ⟨sp_inT (List.mem_of_getElem? (i := 1065) (by decide +kernel)) (by decide +kernel), sp_inT (List.mem_of_getElem? (i := 66) (by decide +kernel)) (by decide +kernel), ⟨sp_inT (List.mem_of_getElem? (i := 1063) (by decide +kernel)) (by decide +kernel), sp_inT (List.mem_of_getElem? (i := 1064) (by decide +kernel)) (by decide +kernel)⟩, ⟨by decide +kernel, by decide +kernel⟩, by decide +kernel, by decide⟩
abbrev mX6_fair : sp_M := (yX6_fair, cX6_fair, 8, some .int)
theorem okX6_fair : sp_okV mX6_fair 3 := ⟨sp_inT (List.mem_of_getElem? (i := 1073) (by decide +kernel)) (by decide +kernel), sp_inT (List.mem_of_getElem? (i := 66) (by decide +kernel)) (by decide +kernel), ⟨sp_inT (List.mem_of_getElem? (i := 1071) (by decide +kernel)) (by decide +kernel), sp_inT (List.mem_of_getElem? (i := 1072) (by decide +kernel)) (by decide +kernel)⟩, ⟨by decide +kernel, by decide +kernel⟩, by decide +kernel, by decide⟩
abbrev mX6_place : sp_M := (yX6_place, cX6_place, 5, some .int)
theorem okX6_place : sp_okV mX6_place 3 := ⟨sp_inT (List.mem_of_getElem? (i := 1078) (by decide +kernel)) (by decide +kernel), sp_inT (List.mem_of_getElem? (i := 66) (by decide +kernel)) (by decide +kernel), ⟨sp_inT (List.mem_of_getElem? (i := 1076) (by decide +kernel)) (by decide +kernel), sp_inT (List.mem_of_getElem? (i := 1077) (by decide +kernel)) (by decide +kernel)⟩, ⟨by decide +kernel, by decide +kernel⟩, by decide +kernel, by decide⟩
abbrev mX6_toldOf : sp_M := (yX6_toldOf, cX6_toldOf, 2, some .int)
theorem okX6_toldOf : sp_okV mX6_toldOf 1 := ⟨sp_inT (List.mem_of_getElem? (i := 1086) (by decide +kernel)) (by decide +kernel), sp_inT (List.mem_of_getElem? (i := 66) (by decide +kernel)) (by decide +kernel), ⟨sp_inT (List.mem_of_getElem? (i := 1085) (by decide +kernel)) (by decide +kernel), sp_inT (List.mem_of_getElem? (i := 58) (by decide +kernel)) (by decide +kernel)⟩, ⟨by decide +kernel, by decide +kernel⟩, by decide +kernel, by decide⟩
abbrev mX6_told : sp_M := (yX6_told, cX6_told, 2, some .int)
theorem okX6_told : sp_okV mX6_told 1 := ⟨sp_inT (List.mem_of_getElem? (i := 1082) (by decide +kernel)) (by decide +kernel), sp_inT (List.mem_of_getElem? (i := 66) (by decide +kernel)) (by decide +kernel), ⟨sp_inT (List.mem_of_getElem? (i := 1080) (by decide +kernel)) (by decide +kernel), sp_inT (List.mem_of_getElem? (i := 1081) (by decide +kernel)) (by decide +kernel)⟩, ⟨by decide +kernel, by decide +kernel⟩, by decide +kernel, by decide⟩
abbrev mX6_digest : sp_M := (yX6_digest, cX6_digest, 5, some .long)
theorem okX6_digest : sp_okV mX6_digest 0 := ⟨sp_inT (List.mem_of_getElem? (i := 1090) (by decide +kernel)) (by decide +kernel), sp_inT (List.mem_of_getElem? (i := 66) (by decide +kernel)) (by decide +kernel), ⟨sp_inT (List.mem_of_getElem? (i := 1088) (by decide +kernel)) (by decide +kernel), sp_inT (List.mem_of_getElem? (i := 1089) (by decide +kernel)) (by decide +kernel)⟩, ⟨by decide +kernel, by decide +kernel⟩, by decide +kernel, by decide⟩
abbrev mX0_init : sp_M := (yX0_init, cX0_init, 1, none)
abbrev mX0_setColumns : sp_M := (yX0_setColumns, cX0_setColumns, 3, some .int)
theorem okX0_setColumns : sp_okV mX0_setColumns 1 := ⟨sp_inT (List.mem_of_getElem? (i := 614) (by decide +kernel)) (by decide +kernel), sp_inT (List.mem_of_getElem? (i := 64) (by decide +kernel)) (by decide +kernel), ⟨sp_inT (List.mem_of_getElem? (i := 612) (by decide +kernel)) (by decide +kernel), sp_inT (List.mem_of_getElem? (i := 613) (by decide +kernel)) (by decide +kernel)⟩, ⟨by decide +kernel, by decide +kernel⟩, by decide +kernel, by decide⟩
abbrev mX0_setDepth : sp_M := (yX0_setDepth, cX0_setDepth, 3, some .int)
theorem okX0_setDepth : sp_okV mX0_setDepth 1 := ⟨sp_inT (List.mem_of_getElem? (i := 618) (by decide +kernel)) (by decide +kernel), sp_inT (List.mem_of_getElem? (i := 64) (by decide +kernel)) (by decide +kernel), ⟨sp_inT (List.mem_of_getElem? (i := 616) (by decide +kernel)) (by decide +kernel), sp_inT (List.mem_of_getElem? (i := 617) (by decide +kernel)) (by decide +kernel)⟩, ⟨by decide +kernel, by decide +kernel⟩, by decide +kernel, by decide⟩
abbrev mX0_setRule : sp_M := (yX0_setRule, cX0_setRule, 3, some .int)
theorem okX0_setRule : sp_okV mX0_setRule 1 := ⟨sp_inT (List.mem_of_getElem? (i := 622) (by decide +kernel)) (by decide +kernel), sp_inT (List.mem_of_getElem? (i := 64) (by decide +kernel)) (by decide +kernel), ⟨sp_inT (List.mem_of_getElem? (i := 620) (by decide +kernel)) (by decide +kernel), sp_inT (List.mem_of_getElem? (i := 621) (by decide +kernel)) (by decide +kernel)⟩, ⟨by decide +kernel, by decide +kernel⟩, by decide +kernel, by decide⟩
abbrev mX0_layContests : sp_M := (yX0_layContests, cX0_layContests, 5, none)
theorem okX0_layContests : sp_okV mX0_layContests 3 := ⟨sp_inT (List.mem_of_getElem? (i := 634) (by decide +kernel)) (by decide +kernel), sp_inT (List.mem_of_getElem? (i := 64) (by decide +kernel)) (by decide +kernel), ⟨sp_inT (List.mem_of_getElem? (i := 632) (by decide +kernel)) (by decide +kernel), sp_inT (List.mem_of_getElem? (i := 633) (by decide +kernel)) (by decide +kernel)⟩, ⟨by decide +kernel, by decide +kernel⟩, by decide +kernel, by decide⟩
abbrev mX0_layOne : sp_M := (yX0_layOne, cX0_layOne, 4, none)
theorem okX0_layOne : sp_okV mX0_layOne 2 := ⟨sp_inT (List.mem_of_getElem? (i := 651) (by decide +kernel)) (by decide +kernel), sp_inT (List.mem_of_getElem? (i := 64) (by decide +kernel)) (by decide +kernel), ⟨sp_inT (List.mem_of_getElem? (i := 650) (by decide +kernel)) (by decide +kernel), sp_inT (List.mem_of_getElem? (i := 15) (by decide +kernel)) (by decide +kernel)⟩, ⟨by decide +kernel, by decide +kernel⟩, by decide +kernel, by decide⟩
abbrev mX0_beginSheet : sp_M := (yX0_beginSheet, cX0_beginSheet, 2, none)
theorem okX0_beginSheet : sp_okV mX0_beginSheet 0 := ⟨sp_inT (List.mem_of_getElem? (i := 638) (by decide +kernel)) (by decide +kernel), sp_inT (List.mem_of_getElem? (i := 64) (by decide +kernel)) (by decide +kernel), ⟨sp_inT (List.mem_of_getElem? (i := 637) (by decide +kernel)) (by decide +kernel), sp_inT (List.mem_of_getElem? (i := 14) (by decide +kernel)) (by decide +kernel)⟩, ⟨by decide +kernel, by decide +kernel⟩, by decide +kernel, by decide⟩
abbrev mX0_columnFor : sp_M := (yX0_columnFor, cX0_columnFor, 3, some .int)
theorem okX0_columnFor : sp_okV mX0_columnFor 2 := ⟨sp_inT (List.mem_of_getElem? (i := 655) (by decide +kernel)) (by decide +kernel), sp_inT (List.mem_of_getElem? (i := 64) (by decide +kernel)) (by decide +kernel), ⟨sp_inT (List.mem_of_getElem? (i := 654) (by decide +kernel)) (by decide +kernel), sp_inT (List.mem_of_getElem? (i := 16) (by decide +kernel)) (by decide +kernel)⟩, ⟨by decide +kernel, by decide +kernel⟩, by decide +kernel, by decide⟩
abbrev mX0_nextColumn : sp_M := (yX0_nextColumn, cX0_nextColumn, 3, some .int)
theorem okX0_nextColumn : sp_okV mX0_nextColumn 1 := ⟨sp_inT (List.mem_of_getElem? (i := 659) (by decide +kernel)) (by decide +kernel), sp_inT (List.mem_of_getElem? (i := 64) (by decide +kernel)) (by decide +kernel), ⟨sp_inT (List.mem_of_getElem? (i := 658) (by decide +kernel)) (by decide +kernel), sp_inT (List.mem_of_getElem? (i := 17) (by decide +kernel)) (by decide +kernel)⟩, ⟨by decide +kernel, by decide +kernel⟩, by decide +kernel, by decide⟩
abbrev mX0_firstColumn : sp_M := (yX0_firstColumn, cX0_firstColumn, 3, some .int)
theorem okX0_firstColumn : sp_okV mX0_firstColumn 1 := ⟨sp_inT (List.mem_of_getElem? (i := 663) (by decide +kernel)) (by decide +kernel), sp_inT (List.mem_of_getElem? (i := 64) (by decide +kernel)) (by decide +kernel), ⟨sp_inT (List.mem_of_getElem? (i := 662) (by decide +kernel)) (by decide +kernel), sp_inT (List.mem_of_getElem? (i := 18) (by decide +kernel)) (by decide +kernel)⟩, ⟨by decide +kernel, by decide +kernel⟩, by decide +kernel, by decide⟩
abbrev mX0_tightColumn : sp_M := (yX0_tightColumn, cX0_tightColumn, 4, some .int)
theorem okX0_tightColumn : sp_okV mX0_tightColumn 1 := ⟨sp_inT (List.mem_of_getElem? (i := 667) (by decide +kernel)) (by decide +kernel), sp_inT (List.mem_of_getElem? (i := 64) (by decide +kernel)) (by decide +kernel), ⟨sp_inT (List.mem_of_getElem? (i := 666) (by decide +kernel)) (by decide +kernel), sp_inT (List.mem_of_getElem? (i := 19) (by decide +kernel)) (by decide +kernel)⟩, ⟨by decide +kernel, by decide +kernel⟩, by decide +kernel, by decide⟩
abbrev mX0_looseColumn : sp_M := (yX0_looseColumn, cX0_looseColumn, 4, some .int)
theorem okX0_looseColumn : sp_okV mX0_looseColumn 1 := ⟨sp_inT (List.mem_of_getElem? (i := 671) (by decide +kernel)) (by decide +kernel), sp_inT (List.mem_of_getElem? (i := 64) (by decide +kernel)) (by decide +kernel), ⟨sp_inT (List.mem_of_getElem? (i := 670) (by decide +kernel)) (by decide +kernel), sp_inT (List.mem_of_getElem? (i := 20) (by decide +kernel)) (by decide +kernel)⟩, ⟨by decide +kernel, by decide +kernel⟩, by decide +kernel, by decide⟩
abbrev mX0_roomLeft : sp_M := (yX0_roomLeft, cX0_roomLeft, 3, some .int)
theorem okX0_roomLeft : sp_okV mX0_roomLeft 0 := ⟨sp_inT (List.mem_of_getElem? (i := 688) (by decide +kernel)) (by decide +kernel), sp_inT (List.mem_of_getElem? (i := 64) (by decide +kernel)) (by decide +kernel), ⟨sp_inT (List.mem_of_getElem? (i := 686) (by decide +kernel)) (by decide +kernel), sp_inT (List.mem_of_getElem? (i := 687) (by decide +kernel)) (by decide +kernel)⟩, ⟨by decide +kernel, by decide +kernel⟩, by decide +kernel, by decide⟩
abbrev mX1_init : sp_M := (yX1_init, cX1_init, 2, none)
abbrev mX1_keep : sp_M := (yX1_keep, cX1_keep, 3, some (.object "StylePapers$Town"))
theorem okX1_keep : sp_okV mX1_keep 1 := ⟨sp_inT (List.mem_of_getElem? (i := 272) (by decide +kernel)) (by decide +kernel), sp_inT (List.mem_of_getElem? (i := 62) (by decide +kernel)) (by decide +kernel), ⟨sp_inT (List.mem_of_getElem? (i := 270) (by decide +kernel)) (by decide +kernel), sp_inT (List.mem_of_getElem? (i := 271) (by decide +kernel)) (by decide +kernel)⟩, ⟨by decide +kernel, by decide +kernel⟩, by decide +kernel, by decide⟩
abbrev mX1_takeBack : sp_M := (yX1_takeBack, cX1_takeBack, 2, some .int)
theorem okX1_takeBack : sp_okV mX1_takeBack 1 := ⟨sp_inT (List.mem_of_getElem? (i := 368) (by decide +kernel)) (by decide +kernel), sp_inT (List.mem_of_getElem? (i := 62) (by decide +kernel)) (by decide +kernel), ⟨sp_inT (List.mem_of_getElem? (i := 366) (by decide +kernel)) (by decide +kernel), sp_inT (List.mem_of_getElem? (i := 367) (by decide +kernel)) (by decide +kernel)⟩, ⟨by decide +kernel, by decide +kernel⟩, by decide +kernel, by decide⟩
abbrev mX2_init : sp_M := (yX2_init, cX2_init, 1, none)
abbrev mX2_isFull : sp_M := (yX2_isFull, cX2_isFull, 1, some .boolean)
theorem okX2_isFull : sp_okV mX2_isFull 0 := ⟨sp_inT (List.mem_of_getElem? (i := 397) (by decide +kernel)) (by decide +kernel), sp_inT (List.mem_of_getElem? (i := 65) (by decide +kernel)) (by decide +kernel), ⟨sp_inT (List.mem_of_getElem? (i := 395) (by decide +kernel)) (by decide +kernel), sp_inT (List.mem_of_getElem? (i := 396) (by decide +kernel)) (by decide +kernel)⟩, ⟨by decide +kernel, by decide +kernel⟩, by decide +kernel, by decide⟩
abbrev mX2_addByte : sp_M := (yX2_addByte, cX2_addByte, 2, some .int)
theorem okX2_addByte : sp_okV mX2_addByte 1 := ⟨sp_inT (List.mem_of_getElem? (i := 405) (by decide +kernel)) (by decide +kernel), sp_inT (List.mem_of_getElem? (i := 65) (by decide +kernel)) (by decide +kernel), ⟨sp_inT (List.mem_of_getElem? (i := 403) (by decide +kernel)) (by decide +kernel), sp_inT (List.mem_of_getElem? (i := 404) (by decide +kernel)) (by decide +kernel)⟩, ⟨by decide +kernel, by decide +kernel⟩, by decide +kernel, by decide⟩
abbrev mX2_makeEmpty : sp_M := (yX2_makeEmpty, cX2_makeEmpty, 2, some .int)
theorem okX2_makeEmpty : sp_okV mX2_makeEmpty 0 := ⟨sp_inT (List.mem_of_getElem? (i := 414) (by decide +kernel)) (by decide +kernel), sp_inT (List.mem_of_getElem? (i := 65) (by decide +kernel)) (by decide +kernel), ⟨sp_inT (List.mem_of_getElem? (i := 412) (by decide +kernel)) (by decide +kernel), sp_inT (List.mem_of_getElem? (i := 413) (by decide +kernel)) (by decide +kernel)⟩, ⟨by decide +kernel, by decide +kernel⟩, by decide +kernel, by decide⟩
abbrev mX2_readOrders : sp_M := (yX2_readOrders, cX2_readOrders, 2, some .int)
theorem okX2_readOrders : sp_okV mX2_readOrders 0 := ⟨sp_inT (List.mem_of_getElem? (i := 422) (by decide +kernel)) (by decide +kernel), sp_inT (List.mem_of_getElem? (i := 65) (by decide +kernel)) (by decide +kernel), ⟨sp_inT (List.mem_of_getElem? (i := 420) (by decide +kernel)) (by decide +kernel), sp_inT (List.mem_of_getElem? (i := 421) (by decide +kernel)) (by decide +kernel)⟩, ⟨by decide +kernel, by decide +kernel⟩, by decide +kernel, by decide⟩
abbrev mX2_readOrder : sp_M := (yX2_readOrder, cX2_readOrder, 4, some .int)
theorem okX2_readOrder : sp_okV mX2_readOrder 0 := ⟨sp_inT (List.mem_of_getElem? (i := 437) (by decide +kernel)) (by decide +kernel), sp_inT (List.mem_of_getElem? (i := 65) (by decide +kernel)) (by decide +kernel), ⟨sp_inT (List.mem_of_getElem? (i := 436) (by decide +kernel)) (by decide +kernel), sp_inT (List.mem_of_getElem? (i := 6) (by decide +kernel)) (by decide +kernel)⟩, ⟨by decide +kernel, by decide +kernel⟩, by decide +kernel, by decide⟩
abbrev mX2_isAsTold : sp_M := (yX2_isAsTold, cX2_isAsTold, 5, some .boolean)
theorem okX2_isAsTold : sp_okV mX2_isAsTold 2 := ⟨sp_inT (List.mem_of_getElem? (i := 511) (by decide +kernel)) (by decide +kernel), sp_inT (List.mem_of_getElem? (i := 65) (by decide +kernel)) (by decide +kernel), ⟨sp_inT (List.mem_of_getElem? (i := 510) (by decide +kernel)) (by decide +kernel), sp_inT (List.mem_of_getElem? (i := 10) (by decide +kernel)) (by decide +kernel)⟩, ⟨by decide +kernel, by decide +kernel⟩, by decide +kernel, by decide⟩
abbrev mX2_readPiece : sp_M := (yX2_readPiece, cX2_readPiece, 1, none)
theorem okX2_readPiece : sp_okV mX2_readPiece 0 := ⟨sp_inT (List.mem_of_getElem? (i := 426) (by decide +kernel)) (by decide +kernel), sp_inT (List.mem_of_getElem? (i := 65) (by decide +kernel)) (by decide +kernel), ⟨sp_inT (List.mem_of_getElem? (i := 425) (by decide +kernel)) (by decide +kernel), sp_inT (List.mem_of_getElem? (i := 5) (by decide +kernel)) (by decide +kernel)⟩, ⟨by decide +kernel, by decide +kernel⟩, by decide +kernel, by decide⟩
abbrev mX2_isLetter : sp_M := (yX2_isLetter, cX2_isLetter, 1, some .boolean)
theorem okX2_isLetter : sp_okS mX2_isLetter 1 := ⟨sp_inT (List.mem_of_getElem? (i := 429) (by decide +kernel)) (by decide +kernel), sp_inT (List.mem_of_getElem? (i := 65) (by decide +kernel)) (by decide +kernel), sp_inT (List.mem_of_getElem? (i := 428) (by decide +kernel)) (by decide +kernel), ⟨by decide +kernel, by decide +kernel⟩, by decide +kernel, by decide⟩
abbrev mX2_isFigure : sp_M := (yX2_isFigure, cX2_isFigure, 1, some .boolean)
theorem okX2_isFigure : sp_okS mX2_isFigure 1 := ⟨sp_inT (List.mem_of_getElem? (i := 433) (by decide +kernel)) (by decide +kernel), sp_inT (List.mem_of_getElem? (i := 65) (by decide +kernel)) (by decide +kernel), sp_inT (List.mem_of_getElem? (i := 432) (by decide +kernel)) (by decide +kernel), ⟨by decide +kernel, by decide +kernel⟩, by decide +kernel, by decide⟩
abbrev mX2_orderHere : sp_M := (yX2_orderHere, cX2_orderHere, 2, some .int)
theorem okX2_orderHere : sp_okV mX2_orderHere 0 := ⟨sp_inT (List.mem_of_getElem? (i := 441) (by decide +kernel)) (by decide +kernel), sp_inT (List.mem_of_getElem? (i := 65) (by decide +kernel)) (by decide +kernel), ⟨sp_inT (List.mem_of_getElem? (i := 440) (by decide +kernel)) (by decide +kernel), sp_inT (List.mem_of_getElem? (i := 7) (by decide +kernel)) (by decide +kernel)⟩, ⟨by decide +kernel, by decide +kernel⟩, by decide +kernel, by decide⟩
abbrev mX2_wordOf : sp_M := (yX2_wordOf, cX2_wordOf, 1, some (.object "java/lang/String"))
theorem okX2_wordOf : sp_okS mX2_wordOf 1 := ⟨sp_inT (List.mem_of_getElem? (i := 444) (by decide +kernel)) (by decide +kernel), sp_inT (List.mem_of_getElem? (i := 65) (by decide +kernel)) (by decide +kernel), sp_inT (List.mem_of_getElem? (i := 443) (by decide +kernel)) (by decide +kernel), ⟨by decide +kernel, by decide +kernel⟩, by decide +kernel, by decide⟩
abbrev mX2_isHere : sp_M := (yX2_isHere, cX2_isHere, 3, some .boolean)
theorem okX2_isHere : sp_okV mX2_isHere 1 := ⟨sp_inT (List.mem_of_getElem? (i := 453) (by decide +kernel)) (by decide +kernel), sp_inT (List.mem_of_getElem? (i := 65) (by decide +kernel)) (by decide +kernel), ⟨sp_inT (List.mem_of_getElem? (i := 452) (by decide +kernel)) (by decide +kernel), sp_inT (List.mem_of_getElem? (i := 8) (by decide +kernel)) (by decide +kernel)⟩, ⟨by decide +kernel, by decide +kernel⟩, by decide +kernel, by decide⟩
abbrev mX2_numberHere : sp_M := (yX2_numberHere, cX2_numberHere, 3, some .int)
theorem okX2_numberHere : sp_okV mX2_numberHere 0 := ⟨sp_inT (List.mem_of_getElem? (i := 507) (by decide +kernel)) (by decide +kernel), sp_inT (List.mem_of_getElem? (i := 65) (by decide +kernel)) (by decide +kernel), ⟨sp_inT (List.mem_of_getElem? (i := 506) (by decide +kernel)) (by decide +kernel), sp_inT (List.mem_of_getElem? (i := 9) (by decide +kernel)) (by decide +kernel)⟩, ⟨by decide +kernel, by decide +kernel⟩, by decide +kernel, by decide⟩
abbrev mX2_carryOut : sp_M := (yX2_carryOut, cX2_carryOut, 6, none)
theorem okX2_carryOut : sp_okV mX2_carryOut 2 := ⟨sp_inT (List.mem_of_getElem? (i := 520) (by decide +kernel)) (by decide +kernel), sp_inT (List.mem_of_getElem? (i := 65) (by decide +kernel)) (by decide +kernel), ⟨sp_inT (List.mem_of_getElem? (i := 518) (by decide +kernel)) (by decide +kernel), sp_inT (List.mem_of_getElem? (i := 519) (by decide +kernel)) (by decide +kernel)⟩, ⟨by decide +kernel, by decide +kernel⟩, by decide +kernel, by decide⟩
abbrev mX3_init : sp_M := (yX3_init, cX3_init, 1, none)
abbrev mX3_sortBlocks : sp_M := (yX3_sortBlocks, cX3_sortBlocks, 5, none)
theorem okX3_sortBlocks : sp_okV mX3_sortBlocks 2 := ⟨sp_inT (List.mem_of_getElem? (i := 380) (by decide +kernel)) (by decide +kernel), sp_inT (List.mem_of_getElem? (i := 63) (by decide +kernel)) (by decide +kernel), ⟨sp_inT (List.mem_of_getElem? (i := 378) (by decide +kernel)) (by decide +kernel), sp_inT (List.mem_of_getElem? (i := 379) (by decide +kernel)) (by decide +kernel)⟩, ⟨by decide +kernel, by decide +kernel⟩, by decide +kernel, by decide⟩
abbrev mX3_keyOf : sp_M := (yX3_keyOf, cX3_keyOf, 5, some .int)
theorem okX3_keyOf : sp_okS mX3_keyOf 3 := ⟨sp_inT (List.mem_of_getElem? (i := 383) (by decide +kernel)) (by decide +kernel), sp_inT (List.mem_of_getElem? (i := 63) (by decide +kernel)) (by decide +kernel), sp_inT (List.mem_of_getElem? (i := 382) (by decide +kernel)) (by decide +kernel), ⟨by decide +kernel, by decide +kernel⟩, by decide +kernel, by decide⟩
abbrev mX3_styleWithKey : sp_M := (yX3_styleWithKey, cX3_styleWithKey, 3, some .int)
theorem okX3_styleWithKey : sp_okV mX3_styleWithKey 1 := ⟨sp_inT (List.mem_of_getElem? (i := 388) (by decide +kernel)) (by decide +kernel), sp_inT (List.mem_of_getElem? (i := 63) (by decide +kernel)) (by decide +kernel), ⟨sp_inT (List.mem_of_getElem? (i := 387) (by decide +kernel)) (by decide +kernel), sp_inT (List.mem_of_getElem? (i := 3) (by decide +kernel)) (by decide +kernel)⟩, ⟨by decide +kernel, by decide +kernel⟩, by decide +kernel, by decide⟩
abbrev mX3_blocksOf : sp_M := (yX3_blocksOf, cX3_blocksOf, 4, some .int)
theorem okX3_blocksOf : sp_okV mX3_blocksOf 1 := ⟨sp_inT (List.mem_of_getElem? (i := 540) (by decide +kernel)) (by decide +kernel), sp_inT (List.mem_of_getElem? (i := 63) (by decide +kernel)) (by decide +kernel), ⟨sp_inT (List.mem_of_getElem? (i := 538) (by decide +kernel)) (by decide +kernel), sp_inT (List.mem_of_getElem? (i := 539) (by decide +kernel)) (by decide +kernel)⟩, ⟨by decide +kernel, by decide +kernel⟩, by decide +kernel, by decide⟩
abbrev mX3_votersOf : sp_M := (yX3_votersOf, cX3_votersOf, 5, some .int)
theorem okX3_votersOf : sp_okV mX3_votersOf 2 := ⟨sp_inT (List.mem_of_getElem? (i := 544) (by decide +kernel)) (by decide +kernel), sp_inT (List.mem_of_getElem? (i := 63) (by decide +kernel)) (by decide +kernel), ⟨sp_inT (List.mem_of_getElem? (i := 542) (by decide +kernel)) (by decide +kernel), sp_inT (List.mem_of_getElem? (i := 543) (by decide +kernel)) (by decide +kernel)⟩, ⟨by decide +kernel, by decide +kernel⟩, by decide +kernel, by decide⟩
abbrev mX3_partsOf : sp_M := (yX3_partsOf, cX3_partsOf, 4, some .int)
theorem okX3_partsOf : sp_okV mX3_partsOf 1 := ⟨sp_inT (List.mem_of_getElem? (i := 548) (by decide +kernel)) (by decide +kernel), sp_inT (List.mem_of_getElem? (i := 63) (by decide +kernel)) (by decide +kernel), ⟨sp_inT (List.mem_of_getElem? (i := 546) (by decide +kernel)) (by decide +kernel), sp_inT (List.mem_of_getElem? (i := 547) (by decide +kernel)) (by decide +kernel)⟩, ⟨by decide +kernel, by decide +kernel⟩, by decide +kernel, by decide⟩
abbrev mX3_visitPart : sp_M := (yX3_visitPart, cX3_visitPart, 6, none)
theorem okX3_visitPart : sp_okV mX3_visitPart 1 := ⟨sp_inT (List.mem_of_getElem? (i := 552) (by decide +kernel)) (by decide +kernel), sp_inT (List.mem_of_getElem? (i := 63) (by decide +kernel)) (by decide +kernel), ⟨sp_inT (List.mem_of_getElem? (i := 551) (by decide +kernel)) (by decide +kernel), sp_inT (List.mem_of_getElem? (i := 12) (by decide +kernel)) (by decide +kernel)⟩, ⟨by decide +kernel, by decide +kernel⟩, by decide +kernel, by decide⟩
abbrev mX3_neighbour : sp_M := (yX3_neighbour, cX3_neighbour, 3, some .int)
theorem okX3_neighbour : sp_okS mX3_neighbour 2 := ⟨sp_inT (List.mem_of_getElem? (i := 555) (by decide +kernel)) (by decide +kernel), sp_inT (List.mem_of_getElem? (i := 63) (by decide +kernel)) (by decide +kernel), sp_inT (List.mem_of_getElem? (i := 554) (by decide +kernel)) (by decide +kernel), ⟨by decide +kernel, by decide +kernel⟩, by decide +kernel, by decide⟩
abbrev mX3_unlikePairs : sp_M := (yX3_unlikePairs, cX3_unlikePairs, 5, some .int)
theorem okX3_unlikePairs : sp_okV mX3_unlikePairs 0 := ⟨sp_inT (List.mem_of_getElem? (i := 573) (by decide +kernel)) (by decide +kernel), sp_inT (List.mem_of_getElem? (i := 63) (by decide +kernel)) (by decide +kernel), ⟨sp_inT (List.mem_of_getElem? (i := 571) (by decide +kernel)) (by decide +kernel), sp_inT (List.mem_of_getElem? (i := 572) (by decide +kernel)) (by decide +kernel)⟩, ⟨by decide +kernel, by decide +kernel⟩, by decide +kernel, by decide⟩
abbrev mX3_pairsOf : sp_M := (yX3_pairsOf, cX3_pairsOf, 7, some .int)
theorem okX3_pairsOf : sp_okV mX3_pairsOf 2 := ⟨sp_inT (List.mem_of_getElem? (i := 581) (by decide +kernel)) (by decide +kernel), sp_inT (List.mem_of_getElem? (i := 63) (by decide +kernel)) (by decide +kernel), ⟨sp_inT (List.mem_of_getElem? (i := 579) (by decide +kernel)) (by decide +kernel), sp_inT (List.mem_of_getElem? (i := 580) (by decide +kernel)) (by decide +kernel)⟩, ⟨by decide +kernel, by decide +kernel⟩, by decide +kernel, by decide⟩
abbrev mX3_arePair : sp_M := (yX3_arePair, cX3_arePair, 4, some .boolean)
theorem okX3_arePair : sp_okS mX3_arePair 4 := ⟨sp_inT (List.mem_of_getElem? (i := 584) (by decide +kernel)) (by decide +kernel), sp_inT (List.mem_of_getElem? (i := 63) (by decide +kernel)) (by decide +kernel), sp_inT (List.mem_of_getElem? (i := 583) (by decide +kernel)) (by decide +kernel), ⟨by decide +kernel, by decide +kernel⟩, by decide +kernel, by decide⟩
abbrev mX3_fewestVoters : sp_M := (yX3_fewestVoters, cX3_fewestVoters, 6, some .int)
theorem okX3_fewestVoters : sp_okV mX3_fewestVoters 1 := ⟨sp_inT (List.mem_of_getElem? (i := 600) (by decide +kernel)) (by decide +kernel), sp_inT (List.mem_of_getElem? (i := 63) (by decide +kernel)) (by decide +kernel), ⟨sp_inT (List.mem_of_getElem? (i := 598) (by decide +kernel)) (by decide +kernel), sp_inT (List.mem_of_getElem? (i := 599) (by decide +kernel)) (by decide +kernel)⟩, ⟨by decide +kernel, by decide +kernel⟩, by decide +kernel, by decide⟩
abbrev mX3_mostParts : sp_M := (yX3_mostParts, cX3_mostParts, 5, some .int)
theorem okX3_mostParts : sp_okV mX3_mostParts 0 := ⟨sp_inT (List.mem_of_getElem? (i := 605) (by decide +kernel)) (by decide +kernel), sp_inT (List.mem_of_getElem? (i := 63) (by decide +kernel)) (by decide +kernel), ⟨sp_inT (List.mem_of_getElem? (i := 603) (by decide +kernel)) (by decide +kernel), sp_inT (List.mem_of_getElem? (i := 604) (by decide +kernel)) (by decide +kernel)⟩, ⟨by decide +kernel, by decide +kernel⟩, by decide +kernel, by decide⟩
abbrev mX4_init : sp_M := (yX4_init, cX4_init, 2, none)
abbrev mX4_copyFrom : sp_M := (yX4_copyFrom, cX4_copyFrom, 2, none)
theorem okX4_copyFrom : sp_okV mX4_copyFrom 1 := ⟨sp_inT (List.mem_of_getElem? (i := 276) (by decide +kernel)) (by decide +kernel), sp_inT (List.mem_of_getElem? (i := 61) (by decide +kernel)) (by decide +kernel), ⟨sp_inT (List.mem_of_getElem? (i := 274) (by decide +kernel)) (by decide +kernel), sp_inT (List.mem_of_getElem? (i := 275) (by decide +kernel)) (by decide +kernel)⟩, ⟨by decide +kernel, by decide +kernel⟩, by decide +kernel, by decide⟩
abbrev mX4_isOn : sp_M := (yX4_isOn, cX4_isOn, 2, some .boolean)
theorem okX4_isOn : sp_okV mX4_isOn 1 := ⟨sp_inT (List.mem_of_getElem? (i := 592) (by decide +kernel)) (by decide +kernel), sp_inT (List.mem_of_getElem? (i := 61) (by decide +kernel)) (by decide +kernel), ⟨sp_inT (List.mem_of_getElem? (i := 590) (by decide +kernel)) (by decide +kernel), sp_inT (List.mem_of_getElem? (i := 591) (by decide +kernel)) (by decide +kernel)⟩, ⟨by decide +kernel, by decide +kernel⟩, by decide +kernel, by decide⟩
abbrev mX4_districtOf : sp_M := (yX4_districtOf, cX4_districtOf, 3, some .int)
theorem okX4_districtOf : sp_okV mX4_districtOf 2 := ⟨sp_inT (List.mem_of_getElem? (i := 353) (by decide +kernel)) (by decide +kernel), sp_inT (List.mem_of_getElem? (i := 61) (by decide +kernel)) (by decide +kernel), ⟨sp_inT (List.mem_of_getElem? (i := 351) (by decide +kernel)) (by decide +kernel), sp_inT (List.mem_of_getElem? (i := 352) (by decide +kernel)) (by decide +kernel)⟩, ⟨by decide +kernel, by decide +kernel⟩, by decide +kernel, by decide⟩
abbrev mX4_namesOf : sp_M := (yX4_namesOf, cX4_namesOf, 3, some .int)
theorem okX4_namesOf : sp_okV mX4_namesOf 2 := ⟨sp_inT (List.mem_of_getElem? (i := 647) (by decide +kernel)) (by decide +kernel), sp_inT (List.mem_of_getElem? (i := 61) (by decide +kernel)) (by decide +kernel), ⟨sp_inT (List.mem_of_getElem? (i := 645) (by decide +kernel)) (by decide +kernel), sp_inT (List.mem_of_getElem? (i := 646) (by decide +kernel)) (by decide +kernel)⟩, ⟨by decide +kernel, by decide +kernel⟩, by decide +kernel, by decide⟩
abbrev mX4_heightAt : sp_M := (yX4_heightAt, cX4_heightAt, 3, some .int)
theorem okX4_heightAt : sp_okV mX4_heightAt 2 := ⟨sp_inT (List.mem_of_getElem? (i := 643) (by decide +kernel)) (by decide +kernel), sp_inT (List.mem_of_getElem? (i := 61) (by decide +kernel)) (by decide +kernel), ⟨sp_inT (List.mem_of_getElem? (i := 641) (by decide +kernel)) (by decide +kernel), sp_inT (List.mem_of_getElem? (i := 642) (by decide +kernel)) (by decide +kernel)⟩, ⟨by decide +kernel, by decide +kernel⟩, by decide +kernel, by decide⟩
abbrev mX4_switchLayer : sp_M := (yX4_switchLayer, cX4_switchLayer, 4, some .int)
theorem okX4_switchLayer : sp_okV mX4_switchLayer 2 := ⟨sp_inT (List.mem_of_getElem? (i := 286) (by decide +kernel)) (by decide +kernel), sp_inT (List.mem_of_getElem? (i := 61) (by decide +kernel)) (by decide +kernel), ⟨sp_inT (List.mem_of_getElem? (i := 284) (by decide +kernel)) (by decide +kernel), sp_inT (List.mem_of_getElem? (i := 285) (by decide +kernel)) (by decide +kernel)⟩, ⟨by decide +kernel, by decide +kernel⟩, by decide +kernel, by decide⟩
abbrev mX4_setNames : sp_M := (yX4_setNames, cX4_setNames, 5, some .int)
theorem okX4_setNames : sp_okV mX4_setNames 3 := ⟨sp_inT (List.mem_of_getElem? (i := 315) (by decide +kernel)) (by decide +kernel), sp_inT (List.mem_of_getElem? (i := 61) (by decide +kernel)) (by decide +kernel), ⟨sp_inT (List.mem_of_getElem? (i := 313) (by decide +kernel)) (by decide +kernel), sp_inT (List.mem_of_getElem? (i := 314) (by decide +kernel)) (by decide +kernel)⟩, ⟨by decide +kernel, by decide +kernel⟩, by decide +kernel, by decide⟩
abbrev mX4_setVoters : sp_M := (yX4_setVoters, cX4_setVoters, 4, some .int)
theorem okX4_setVoters : sp_okV mX4_setVoters 2 := ⟨sp_inT (List.mem_of_getElem? (i := 323) (by decide +kernel)) (by decide +kernel), sp_inT (List.mem_of_getElem? (i := 61) (by decide +kernel)) (by decide +kernel), ⟨sp_inT (List.mem_of_getElem? (i := 321) (by decide +kernel)) (by decide +kernel), sp_inT (List.mem_of_getElem? (i := 322) (by decide +kernel)) (by decide +kernel)⟩, ⟨by decide +kernel, by decide +kernel⟩, by decide +kernel, by decide⟩
abbrev mX4_setDistrict : sp_M := (yX4_setDistrict, cX4_setDistrict, 5, some .int)
theorem okX4_setDistrict : sp_okV mX4_setDistrict 3 := ⟨sp_inT (List.mem_of_getElem? (i := 307) (by decide +kernel)) (by decide +kernel), sp_inT (List.mem_of_getElem? (i := 61) (by decide +kernel)) (by decide +kernel), ⟨sp_inT (List.mem_of_getElem? (i := 305) (by decide +kernel)) (by decide +kernel), sp_inT (List.mem_of_getElem? (i := 306) (by decide +kernel)) (by decide +kernel)⟩, ⟨by decide +kernel, by decide +kernel⟩, by decide +kernel, by decide⟩
abbrev mX4_putRectangle : sp_M := (yX4_putRectangle, cX4_putRectangle, 8, some .int)
theorem okX4_putRectangle : sp_okV mX4_putRectangle 4 := ⟨sp_inT (List.mem_of_getElem? (i := 303) (by decide +kernel)) (by decide +kernel), sp_inT (List.mem_of_getElem? (i := 61) (by decide +kernel)) (by decide +kernel), ⟨sp_inT (List.mem_of_getElem? (i := 301) (by decide +kernel)) (by decide +kernel), sp_inT (List.mem_of_getElem? (i := 302) (by decide +kernel)) (by decide +kernel)⟩, ⟨by decide +kernel, by decide +kernel⟩, by decide +kernel, by decide⟩
abbrev mX4_drawLayer : sp_M := (yX4_drawLayer, cX4_drawLayer, 8, some .int)
theorem okX4_drawLayer : sp_okV mX4_drawLayer 3 := ⟨sp_inT (List.mem_of_getElem? (i := 332) (by decide +kernel)) (by decide +kernel), sp_inT (List.mem_of_getElem? (i := 61) (by decide +kernel)) (by decide +kernel), ⟨sp_inT (List.mem_of_getElem? (i := 330) (by decide +kernel)) (by decide +kernel), sp_inT (List.mem_of_getElem? (i := 331) (by decide +kernel)) (by decide +kernel)⟩, ⟨by decide +kernel, by decide +kernel⟩, by decide +kernel, by decide⟩
abbrev mX4_followMap : sp_M := (yX4_followMap, cX4_followMap, 7, some .int)
theorem okX4_followMap : sp_okV mX4_followMap 4 := ⟨sp_inT (List.mem_of_getElem? (i := 346) (by decide +kernel)) (by decide +kernel), sp_inT (List.mem_of_getElem? (i := 61) (by decide +kernel)) (by decide +kernel), ⟨sp_inT (List.mem_of_getElem? (i := 344) (by decide +kernel)) (by decide +kernel), sp_inT (List.mem_of_getElem? (i := 345) (by decide +kernel)) (by decide +kernel)⟩, ⟨by decide +kernel, by decide +kernel⟩, by decide +kernel, by decide⟩
abbrev mX4_followed : sp_M := (yX4_followed, cX4_followed, 6, some .int)
theorem okX4_followed : sp_okS mX4_followed 5 := ⟨sp_inT (List.mem_of_getElem? (i := 349) (by decide +kernel)) (by decide +kernel), sp_inT (List.mem_of_getElem? (i := 61) (by decide +kernel)) (by decide +kernel), sp_inT (List.mem_of_getElem? (i := 348) (by decide +kernel)) (by decide +kernel), ⟨by decide +kernel, by decide +kernel⟩, by decide +kernel, by decide⟩
abbrev mX4_leaderIn : sp_M := (yX4_leaderIn, cX4_leaderIn, 6, some .int)
theorem okX4_leaderIn : sp_okV mX4_leaderIn 2 := ⟨sp_inT (List.mem_of_getElem? (i := 704) (by decide +kernel)) (by decide +kernel), sp_inT (List.mem_of_getElem? (i := 61) (by decide +kernel)) (by decide +kernel), ⟨sp_inT (List.mem_of_getElem? (i := 702) (by decide +kernel)) (by decide +kernel), sp_inT (List.mem_of_getElem? (i := 703) (by decide +kernel)) (by decide +kernel)⟩, ⟨by decide +kernel, by decide +kernel⟩, by decide +kernel, by decide⟩
abbrev mX4_nextLeader : sp_M := (yX4_nextLeader, cX4_nextLeader, 4, some .int)
theorem okX4_nextLeader : sp_okV mX4_nextLeader 3 := ⟨sp_inT (List.mem_of_getElem? (i := 708) (by decide +kernel)) (by decide +kernel), sp_inT (List.mem_of_getElem? (i := 61) (by decide +kernel)) (by decide +kernel), ⟨sp_inT (List.mem_of_getElem? (i := 707) (by decide +kernel)) (by decide +kernel), sp_inT (List.mem_of_getElem? (i := 23) (by decide +kernel)) (by decide +kernel)⟩, ⟨by decide +kernel, by decide +kernel⟩, by decide +kernel, by decide⟩
abbrev mX4_ledBy : sp_M := (yX4_ledBy, cX4_ledBy, 8, some .int)
theorem okX4_ledBy : sp_okV mX4_ledBy 4 := ⟨sp_inT (List.mem_of_getElem? (i := 720) (by decide +kernel)) (by decide +kernel), sp_inT (List.mem_of_getElem? (i := 61) (by decide +kernel)) (by decide +kernel), ⟨sp_inT (List.mem_of_getElem? (i := 718) (by decide +kernel)) (by decide +kernel), sp_inT (List.mem_of_getElem? (i := 719) (by decide +kernel)) (by decide +kernel)⟩, ⟨by decide +kernel, by decide +kernel⟩, by decide +kernel, by decide⟩
theorem flX4_9 : sp_fl RX4 9 4 0 := ⟨RX4, TX4, 4, rfl, by decide, sp_inT (List.mem_of_getElem? (i := 88) (by decide +kernel)) (by decide +kernel)⟩
theorem flX3_46 : sp_fn RX3 46 4 0 := ⟨RX4, TX4, 4, RX5, rfl, by decide, List.mem_of_getElem? (i := 89) (by decide +kernel)⟩
theorem flX5_113 : sp_fn RX5 113 4 0 := ⟨RX4, TX4, 4, RX5, rfl, by decide, List.mem_of_getElem? (i := 90) (by decide +kernel)⟩
theorem flX4_15 : sp_fl RX4 15 4 1 := ⟨RX4, TX4, 4, rfl, by decide, sp_inT (List.mem_of_getElem? (i := 91) (by decide +kernel)) (by decide +kernel)⟩
theorem flX4_18 : sp_fl RX4 18 4 2 := ⟨RX4, TX4, 4, rfl, by decide, sp_inT (List.mem_of_getElem? (i := 92) (by decide +kernel)) (by decide +kernel)⟩
theorem flX4_21 : sp_fl RX4 21 4 3 := ⟨RX4, TX4, 4, rfl, by decide, sp_inT (List.mem_of_getElem? (i := 93) (by decide +kernel)) (by decide +kernel)⟩
theorem flX5_162 : sp_fn RX5 162 4 3 := ⟨RX4, TX4, 4, RX5, rfl, by decide, List.mem_of_getElem? (i := 94) (by decide +kernel)⟩
theorem flX1_11 : sp_fl RX1 11 1 0 := ⟨RX1, TX1, 3, rfl, by decide, sp_inT (List.mem_of_getElem? (i := 114) (by decide +kernel)) (by decide +kernel)⟩
theorem flX1_15 : sp_fl RX1 15 1 1 := ⟨RX1, TX1, 3, rfl, by decide, sp_inT (List.mem_of_getElem? (i := 115) (by decide +kernel)) (by decide +kernel)⟩
theorem flX1_19 : sp_fl RX1 19 1 2 := ⟨RX1, TX1, 3, rfl, by decide, sp_inT (List.mem_of_getElem? (i := 116) (by decide +kernel)) (by decide +kernel)⟩
theorem flX5_103 : sp_fn RX5 103 1 2 := ⟨RX1, TX1, 3, RX5, rfl, by decide, List.mem_of_getElem? (i := 117) (by decide +kernel)⟩
theorem flX3_9 : sp_fl RX3 9 3 0 := ⟨RX3, TX3, 6, rfl, by decide, sp_inT (List.mem_of_getElem? (i := 131) (by decide +kernel)) (by decide +kernel)⟩
theorem flX3_15 : sp_fl RX3 15 3 1 := ⟨RX3, TX3, 6, rfl, by decide, sp_inT (List.mem_of_getElem? (i := 132) (by decide +kernel)) (by decide +kernel)⟩
theorem flX5_120 : sp_fn RX5 120 3 1 := ⟨RX3, TX3, 6, RX5, rfl, by decide, List.mem_of_getElem? (i := 133) (by decide +kernel)⟩
theorem flX3_18 : sp_fl RX3 18 3 2 := ⟨RX3, TX3, 6, rfl, by decide, sp_inT (List.mem_of_getElem? (i := 134) (by decide +kernel)) (by decide +kernel)⟩
theorem flX5_170 : sp_fn RX5 170 3 2 := ⟨RX3, TX3, 6, RX5, rfl, by decide, List.mem_of_getElem? (i := 135) (by decide +kernel)⟩
theorem flX3_21 : sp_fl RX3 21 3 3 := ⟨RX3, TX3, 6, rfl, by decide, sp_inT (List.mem_of_getElem? (i := 136) (by decide +kernel)) (by decide +kernel)⟩
theorem flX3_24 : sp_fl RX3 24 3 4 := ⟨RX3, TX3, 6, rfl, by decide, sp_inT (List.mem_of_getElem? (i := 137) (by decide +kernel)) (by decide +kernel)⟩
theorem flX3_28 : sp_fl RX3 28 3 5 := ⟨RX3, TX3, 6, rfl, by decide, sp_inT (List.mem_of_getElem? (i := 138) (by decide +kernel)) (by decide +kernel)⟩
theorem flX5_148 : sp_fn RX5 148 3 5 := ⟨RX3, TX3, 6, RX5, rfl, by decide, List.mem_of_getElem? (i := 139) (by decide +kernel)⟩
theorem flX0_9 : sp_fl RX0 9 0 0 := ⟨RX0, TX0, 10, rfl, by decide, sp_inT (List.mem_of_getElem? (i := 160) (by decide +kernel)) (by decide +kernel)⟩
theorem flX5_267 : sp_fn RX5 267 0 0 := ⟨RX0, TX0, 10, RX5, rfl, by decide, List.mem_of_getElem? (i := 161) (by decide +kernel)⟩
theorem flX0_15 : sp_fl RX0 15 0 1 := ⟨RX0, TX0, 10, rfl, by decide, sp_inT (List.mem_of_getElem? (i := 162) (by decide +kernel)) (by decide +kernel)⟩
theorem flX5_270 : sp_fn RX5 270 0 1 := ⟨RX0, TX0, 10, RX5, rfl, by decide, List.mem_of_getElem? (i := 163) (by decide +kernel)⟩
theorem flX0_18 : sp_fl RX0 18 0 2 := ⟨RX0, TX0, 10, rfl, by decide, sp_inT (List.mem_of_getElem? (i := 164) (by decide +kernel)) (by decide +kernel)⟩
theorem flX5_201 : sp_fn RX5 201 0 2 := ⟨RX0, TX0, 10, RX5, rfl, by decide, List.mem_of_getElem? (i := 165) (by decide +kernel)⟩
theorem flX0_21 : sp_fl RX0 21 0 3 := ⟨RX0, TX0, 10, rfl, by decide, sp_inT (List.mem_of_getElem? (i := 166) (by decide +kernel)) (by decide +kernel)⟩
theorem flX0_25 : sp_fl RX0 25 0 4 := ⟨RX0, TX0, 10, rfl, by decide, sp_inT (List.mem_of_getElem? (i := 167) (by decide +kernel)) (by decide +kernel)⟩
theorem flX5_214 : sp_fn RX5 214 0 4 := ⟨RX0, TX0, 10, RX5, rfl, by decide, List.mem_of_getElem? (i := 168) (by decide +kernel)⟩
theorem flX0_28 : sp_fl RX0 28 0 5 := ⟨RX0, TX0, 10, rfl, by decide, sp_inT (List.mem_of_getElem? (i := 169) (by decide +kernel)) (by decide +kernel)⟩
theorem flX5_224 : sp_fn RX5 224 0 5 := ⟨RX0, TX0, 10, RX5, rfl, by decide, List.mem_of_getElem? (i := 170) (by decide +kernel)⟩
theorem flX0_31 : sp_fl RX0 31 0 6 := ⟨RX0, TX0, 10, rfl, by decide, sp_inT (List.mem_of_getElem? (i := 171) (by decide +kernel)) (by decide +kernel)⟩
theorem flX5_211 : sp_fn RX5 211 0 6 := ⟨RX0, TX0, 10, RX5, rfl, by decide, List.mem_of_getElem? (i := 172) (by decide +kernel)⟩
theorem flX0_34 : sp_fl RX0 34 0 7 := ⟨RX0, TX0, 10, rfl, by decide, sp_inT (List.mem_of_getElem? (i := 173) (by decide +kernel)) (by decide +kernel)⟩
theorem flX5_273 : sp_fn RX5 273 0 7 := ⟨RX0, TX0, 10, RX5, rfl, by decide, List.mem_of_getElem? (i := 174) (by decide +kernel)⟩
theorem flX0_37 : sp_fl RX0 37 0 8 := ⟨RX0, TX0, 10, rfl, by decide, sp_inT (List.mem_of_getElem? (i := 175) (by decide +kernel)) (by decide +kernel)⟩
theorem flX0_40 : sp_fl RX0 40 0 9 := ⟨RX0, TX0, 10, rfl, by decide, sp_inT (List.mem_of_getElem? (i := 176) (by decide +kernel)) (by decide +kernel)⟩
theorem flX5_220 : sp_fn RX5 220 0 9 := ⟨RX0, TX0, 10, RX5, rfl, by decide, List.mem_of_getElem? (i := 177) (by decide +kernel)⟩
theorem flX2_11 : sp_fl RX2 11 2 0 := ⟨RX2, TX2, 7, rfl, by decide, sp_inT (List.mem_of_getElem? (i := 205) (by decide +kernel)) (by decide +kernel)⟩
theorem flX2_15 : sp_fl RX2 15 2 1 := ⟨RX2, TX2, 7, rfl, by decide, sp_inT (List.mem_of_getElem? (i := 206) (by decide +kernel)) (by decide +kernel)⟩
theorem flX5_264 : sp_fn RX5 264 2 1 := ⟨RX2, TX2, 7, RX5, rfl, by decide, List.mem_of_getElem? (i := 207) (by decide +kernel)⟩
theorem flX2_19 : sp_fl RX2 19 2 2 := ⟨RX2, TX2, 7, rfl, by decide, sp_inT (List.mem_of_getElem? (i := 208) (by decide +kernel)) (by decide +kernel)⟩
theorem flX2_23 : sp_fl RX2 23 2 3 := ⟨RX2, TX2, 7, rfl, by decide, sp_inT (List.mem_of_getElem? (i := 209) (by decide +kernel)) (by decide +kernel)⟩
theorem flX5_143 : sp_fn RX5 143 2 3 := ⟨RX2, TX2, 7, RX5, rfl, by decide, List.mem_of_getElem? (i := 210) (by decide +kernel)⟩
theorem flX2_26 : sp_fl RX2 26 2 4 := ⟨RX2, TX2, 7, rfl, by decide, sp_inT (List.mem_of_getElem? (i := 211) (by decide +kernel)) (by decide +kernel)⟩
theorem flX2_29 : sp_fl RX2 29 2 5 := ⟨RX2, TX2, 7, rfl, by decide, sp_inT (List.mem_of_getElem? (i := 212) (by decide +kernel)) (by decide +kernel)⟩
theorem flX2_32 : sp_fl RX2 32 2 6 := ⟨RX2, TX2, 7, rfl, by decide, sp_inT (List.mem_of_getElem? (i := 213) (by decide +kernel)) (by decide +kernel)⟩
theorem flX5_10 : sp_fl RX5 10 5 0 := ⟨RX5, TX5, 8, rfl, by decide, sp_inT (List.mem_of_getElem? (i := 230) (by decide +kernel)) (by decide +kernel)⟩
theorem flX5_19 : sp_fl RX5 19 5 1 := ⟨RX5, TX5, 8, rfl, by decide, sp_inT (List.mem_of_getElem? (i := 231) (by decide +kernel)) (by decide +kernel)⟩
theorem flX5_26 : sp_fl RX5 26 5 2 := ⟨RX5, TX5, 8, rfl, by decide, sp_inT (List.mem_of_getElem? (i := 232) (by decide +kernel)) (by decide +kernel)⟩
theorem flX5_33 : sp_fl RX5 33 5 3 := ⟨RX5, TX5, 8, rfl, by decide, sp_inT (List.mem_of_getElem? (i := 233) (by decide +kernel)) (by decide +kernel)⟩
theorem flX5_40 : sp_fl RX5 40 5 4 := ⟨RX5, TX5, 8, rfl, by decide, sp_inT (List.mem_of_getElem? (i := 234) (by decide +kernel)) (by decide +kernel)⟩
theorem flX5_44 : sp_fl RX5 44 5 5 := ⟨RX5, TX5, 8, rfl, by decide, sp_inT (List.mem_of_getElem? (i := 235) (by decide +kernel)) (by decide +kernel)⟩
theorem flX5_48 : sp_fl RX5 48 5 6 := ⟨RX5, TX5, 8, rfl, by decide, sp_inT (List.mem_of_getElem? (i := 236) (by decide +kernel)) (by decide +kernel)⟩
theorem flX5_51 : sp_fl RX5 51 5 7 := ⟨RX5, TX5, 8, rfl, by decide, sp_inT (List.mem_of_getElem? (i := 237) (by decide +kernel)) (by decide +kernel)⟩
theorem lkL_13 : Cond.methodLink RL 13 yX5_on ∈ sp_T := sp_inT (List.mem_of_getElem? (i := 255) (by decide +kernel)) (by decide +kernel)
theorem lkX5_54 : Cond.methodLink RX5 54 yX5_isLayer ∈ sp_T := sp_inT (List.mem_of_getElem? (i := 259) (by decide +kernel)) (by decide +kernel)
theorem lkX5_58 : Cond.methodLink RX5 58 yX5_within ∈ sp_T := sp_inT (List.mem_of_getElem? (i := 262) (by decide +kernel)) (by decide +kernel)
theorem lkX5_62 : Cond.methodLink RX5 62 yX5_refuseBad ∈ sp_T := sp_inT (List.mem_of_getElem? (i := 265) (by decide +kernel)) (by decide +kernel)
theorem lkX5_66 : Cond.methodLink RX5 66 yX1_keep ∈ sp_T := sp_inT (List.mem_of_getElem? (i := 269) (by decide +kernel)) (by decide +kernel)
theorem lkX1_23 : Cond.methodLink RX1 23 yX4_copyFrom ∈ sp_T := sp_inT (List.mem_of_getElem? (i := 273) (by decide +kernel)) (by decide +kernel)
theorem lkX5_70 : Cond.methodLink RX5 70 yX4_switchLayer ∈ sp_T := sp_inT (List.mem_of_getElem? (i := 283) (by decide +kernel)) (by decide +kernel)
theorem lkL_18 : Cond.methodLink RL 18 yX5_puts ∈ sp_T := sp_inT (List.mem_of_getElem? (i := 287) (by decide +kernel)) (by decide +kernel)
theorem lkX5_74 : Cond.methodLink RX5 74 yX5_isDistrict ∈ sp_T := sp_inT (List.mem_of_getElem? (i := 291) (by decide +kernel)) (by decide +kernel)
theorem lkX5_77 : Cond.methodLink RX5 77 yX5_isRectangle ∈ sp_T := sp_inT (List.mem_of_getElem? (i := 294) (by decide +kernel)) (by decide +kernel)
theorem lkX5_89 : Cond.methodLink RX5 89 yX5_isBlock ∈ sp_T := sp_inT (List.mem_of_getElem? (i := 297) (by decide +kernel)) (by decide +kernel)
theorem lkX5_81 : Cond.methodLink RX5 81 yX4_putRectangle ∈ sp_T := sp_inT (List.mem_of_getElem? (i := 300) (by decide +kernel)) (by decide +kernel)
theorem lkX4_38 : Cond.methodLink RX4 38 yX4_setDistrict ∈ sp_T := sp_inT (List.mem_of_getElem? (i := 304) (by decide +kernel)) (by decide +kernel)
theorem lkL_23 : Cond.methodLink RL 23 yX5_names ∈ sp_T := sp_inT (List.mem_of_getElem? (i := 308) (by decide +kernel)) (by decide +kernel)
theorem lkX5_85 : Cond.methodLink RX5 85 yX4_setNames ∈ sp_T := sp_inT (List.mem_of_getElem? (i := 312) (by decide +kernel)) (by decide +kernel)
theorem lkL_28 : Cond.methodLink RL 28 yX5_voters ∈ sp_T := sp_inT (List.mem_of_getElem? (i := 316) (by decide +kernel)) (by decide +kernel)
theorem lkX5_92 : Cond.methodLink RX5 92 yX4_setVoters ∈ sp_T := sp_inT (List.mem_of_getElem? (i := 320) (by decide +kernel)) (by decide +kernel)
theorem lkL_32 : Cond.methodLink RL 32 yX5_draw ∈ sp_T := sp_inT (List.mem_of_getElem? (i := 324) (by decide +kernel)) (by decide +kernel)
theorem kcX5_95 : Cond.constant RX5 95 (Int32.ofInt 999999) ∈ sp_T := sp_inT (List.mem_of_getElem? (i := 328) (by decide +kernel)) (by decide +kernel)
theorem lkX5_96 : Cond.methodLink RX5 96 yX4_drawLayer ∈ sp_T := sp_inT (List.mem_of_getElem? (i := 329) (by decide +kernel)) (by decide +kernel)
theorem kcX4_42 : Cond.constantLong RX4 42 (Int64.ofInt 1103515245) ∈ sp_T := sp_inT (List.mem_of_getElem? (i := 333) (by decide +kernel)) (by decide +kernel)
theorem kcX4_44 : Cond.constantLong RX4 44 (Int64.ofInt 12345) ∈ sp_T := sp_inT (List.mem_of_getElem? (i := 334) (by decide +kernel)) (by decide +kernel)
theorem kcX4_46 : Cond.constantLong RX4 46 (Int64.ofInt 2147483648) ∈ sp_T := sp_inT (List.mem_of_getElem? (i := 335) (by decide +kernel)) (by decide +kernel)
theorem kcX4_48 : Cond.constantLong RX4 48 (Int64.ofInt 65536) ∈ sp_T := sp_inT (List.mem_of_getElem? (i := 336) (by decide +kernel)) (by decide +kernel)
theorem kcX4_50 : Cond.constantLong RX4 50 (Int64.ofInt 1024) ∈ sp_T := sp_inT (List.mem_of_getElem? (i := 337) (by decide +kernel)) (by decide +kernel)
theorem kcX4_52 : Cond.constantLong RX4 52 (Int64.ofInt 30) ∈ sp_T := sp_inT (List.mem_of_getElem? (i := 338) (by decide +kernel)) (by decide +kernel)
theorem lkL_36 : Cond.methodLink RL 36 yX5_follows ∈ sp_T := sp_inT (List.mem_of_getElem? (i := 339) (by decide +kernel)) (by decide +kernel)
theorem lkX5_99 : Cond.methodLink RX5 99 yX4_followMap ∈ sp_T := sp_inT (List.mem_of_getElem? (i := 343) (by decide +kernel)) (by decide +kernel)
theorem lkX4_54 : Cond.methodLink RX4 54 yX4_followed ∈ sp_T := sp_inT (List.mem_of_getElem? (i := 347) (by decide +kernel)) (by decide +kernel)
theorem lkX4_31 : Cond.methodLink RX4 31 yX4_districtOf ∈ sp_T := sp_inT (List.mem_of_getElem? (i := 350) (by decide +kernel)) (by decide +kernel)
theorem lkL_40 : Cond.methodLink RL 40 yX5_undo ∈ sp_T := sp_inT (List.mem_of_getElem? (i := 357) (by decide +kernel)) (by decide +kernel)
theorem lkX5_106 : Cond.methodLink RX5 106 yX5_refuseNo ∈ sp_T := sp_inT (List.mem_of_getElem? (i := 361) (by decide +kernel)) (by decide +kernel)
theorem lkX5_109 : Cond.methodLink RX5 109 yX1_takeBack ∈ sp_T := sp_inT (List.mem_of_getElem? (i := 365) (by decide +kernel)) (by decide +kernel)
theorem lkL_45 : Cond.methodLink RL 45 yX5_of ∈ sp_T := sp_inT (List.mem_of_getElem? (i := 369) (by decide +kernel)) (by decide +kernel)
theorem lkX5_117 : Cond.methodLink RX5 117 yX5_sortStyles ∈ sp_T := sp_inT (List.mem_of_getElem? (i := 373) (by decide +kernel)) (by decide +kernel)
theorem lkX5_173 : Cond.methodLink RX5 173 yX3_sortBlocks ∈ sp_T := sp_inT (List.mem_of_getElem? (i := 377) (by decide +kernel)) (by decide +kernel)
theorem lkX3_32 : Cond.methodLink RX3 32 yX3_keyOf ∈ sp_T := sp_inT (List.mem_of_getElem? (i := 381) (by decide +kernel)) (by decide +kernel)
theorem lkX3_40 : Cond.methodLink RX3 40 yX4_districtOf ∈ sp_T := sp_inT (List.mem_of_getElem? (i := 384) (by decide +kernel)) (by decide +kernel)
theorem lkX3_36 : Cond.methodLink RX3 36 yX3_styleWithKey ∈ sp_T := sp_inT (List.mem_of_getElem? (i := 385) (by decide +kernel)) (by decide +kernel)
theorem lkX5_123 : Cond.methodLink RX5 123 yX4_districtOf ∈ sp_T := sp_inT (List.mem_of_getElem? (i := 389) (by decide +kernel)) (by decide +kernel)
theorem lkL_49 : Cond.methodLink RL 49 yX5_type ∈ sp_T := sp_inT (List.mem_of_getElem? (i := 390) (by decide +kernel)) (by decide +kernel)
theorem lkX5_126 : Cond.methodLink RX5 126 yX2_isFull ∈ sp_T := sp_inT (List.mem_of_getElem? (i := 394) (by decide +kernel)) (by decide +kernel)
theorem lkX5_130 : Cond.methodLink RX5 130 yX5_refuseFull ∈ sp_T := sp_inT (List.mem_of_getElem? (i := 398) (by decide +kernel)) (by decide +kernel)
theorem lkX5_133 : Cond.methodLink RX5 133 yX2_addByte ∈ sp_T := sp_inT (List.mem_of_getElem? (i := 402) (by decide +kernel)) (by decide +kernel)
theorem lkX2_35 : Cond.methodLink RX2 35 yX2_isFull ∈ sp_T := sp_inT (List.mem_of_getElem? (i := 406) (by decide +kernel)) (by decide +kernel)
theorem lkL_54 : Cond.methodLink RL 54 yX5_clear ∈ sp_T := sp_inT (List.mem_of_getElem? (i := 407) (by decide +kernel)) (by decide +kernel)
theorem lkX5_137 : Cond.methodLink RX5 137 yX2_makeEmpty ∈ sp_T := sp_inT (List.mem_of_getElem? (i := 411) (by decide +kernel)) (by decide +kernel)
theorem lkL_58 : Cond.methodLink RL 58 yX5_does ∈ sp_T := sp_inT (List.mem_of_getElem? (i := 415) (by decide +kernel)) (by decide +kernel)
theorem lkX5_140 : Cond.methodLink RX5 140 yX2_readOrders ∈ sp_T := sp_inT (List.mem_of_getElem? (i := 419) (by decide +kernel)) (by decide +kernel)
theorem lkX2_39 : Cond.methodLink RX2 39 yX2_readPiece ∈ sp_T := sp_inT (List.mem_of_getElem? (i := 423) (by decide +kernel)) (by decide +kernel)
theorem lkX2_72 : Cond.methodLink RX2 72 yX2_isLetter ∈ sp_T := sp_inT (List.mem_of_getElem? (i := 427) (by decide +kernel)) (by decide +kernel)
theorem lkX2_65 : Cond.methodLinkNest RX2 65 yX5_within RX5 ∈ lw_tbl := List.mem_of_getElem? (i := 430) (by decide +kernel)
theorem lkX2_76 : Cond.methodLink RX2 76 yX2_isFigure ∈ sp_T := sp_inT (List.mem_of_getElem? (i := 431) (by decide +kernel)) (by decide +kernel)
theorem lkX2_42 : Cond.methodLink RX2 42 yX2_readOrder ∈ sp_T := sp_inT (List.mem_of_getElem? (i := 434) (by decide +kernel)) (by decide +kernel)
theorem lkX2_46 : Cond.methodLink RX2 46 yX2_orderHere ∈ sp_T := sp_inT (List.mem_of_getElem? (i := 438) (by decide +kernel)) (by decide +kernel)
theorem lkX2_79 : Cond.methodLink RX2 79 yX2_wordOf ∈ sp_T := sp_inT (List.mem_of_getElem? (i := 442) (by decide +kernel)) (by decide +kernel)
theorem lkX2_83 : Cond.methodLink RX2 83 yX2_isHere ∈ sp_T := sp_inT (List.mem_of_getElem? (i := 450) (by decide +kernel)) (by decide +kernel)
theorem flX2_49 : Cond.fieldLink RX2 49 RX2 "NUMBERS" "[I" ∈ sp_T := sp_inT (List.mem_of_getElem? (i := 502) (by decide +kernel)) (by decide +kernel)
theorem lkX2_52 : Cond.methodLink RX2 52 yX2_numberHere ∈ sp_T := sp_inT (List.mem_of_getElem? (i := 504) (by decide +kernel)) (by decide +kernel)
theorem lkX2_55 : Cond.methodLink RX2 55 yX2_isAsTold ∈ sp_T := sp_inT (List.mem_of_getElem? (i := 508) (by decide +kernel)) (by decide +kernel)
theorem flX2_59 : Cond.fieldLink RX2 59 RX2 "LEAST" "[I" ∈ sp_T := sp_inT (List.mem_of_getElem? (i := 512) (by decide +kernel)) (by decide +kernel)
theorem flX2_62 : Cond.fieldLink RX2 62 RX2 "GREATEST" "[I" ∈ sp_T := sp_inT (List.mem_of_getElem? (i := 514) (by decide +kernel)) (by decide +kernel)
theorem lkX2_69 : Cond.methodLinkNest RX2 69 yX5_isRectangle RX5 ∈ lw_tbl := List.mem_of_getElem? (i := 516) (by decide +kernel)
theorem lkX5_144 : Cond.methodLink RX5 144 yX2_carryOut ∈ sp_T := sp_inT (List.mem_of_getElem? (i := 517) (by decide +kernel)) (by decide +kernel)
theorem lkX2_105 : Cond.methodLink RX2 105 yX4_switchLayer ∈ sp_T := sp_inT (List.mem_of_getElem? (i := 521) (by decide +kernel)) (by decide +kernel)
theorem lkX2_111 : Cond.methodLink RX2 111 yX4_putRectangle ∈ sp_T := sp_inT (List.mem_of_getElem? (i := 522) (by decide +kernel)) (by decide +kernel)
theorem lkX2_115 : Cond.methodLink RX2 115 yX4_setNames ∈ sp_T := sp_inT (List.mem_of_getElem? (i := 523) (by decide +kernel)) (by decide +kernel)
theorem lkX2_119 : Cond.methodLink RX2 119 yX4_setVoters ∈ sp_T := sp_inT (List.mem_of_getElem? (i := 524) (by decide +kernel)) (by decide +kernel)
theorem lkL_62 : Cond.methodLink RL 62 yX5_styles ∈ sp_T := sp_inT (List.mem_of_getElem? (i := 525) (by decide +kernel)) (by decide +kernel)
theorem lkL_66 : Cond.methodLink RL 66 yX5_style ∈ sp_T := sp_inT (List.mem_of_getElem? (i := 529) (by decide +kernel)) (by decide +kernel)
theorem lkX5_149 : Cond.methodLink RX5 149 yX5_isStyle ∈ sp_T := sp_inT (List.mem_of_getElem? (i := 533) (by decide +kernel)) (by decide +kernel)
theorem lkX5_152 : Cond.methodLink RX5 152 yX3_blocksOf ∈ sp_T := sp_inT (List.mem_of_getElem? (i := 537) (by decide +kernel)) (by decide +kernel)
theorem lkX5_155 : Cond.methodLink RX5 155 yX3_votersOf ∈ sp_T := sp_inT (List.mem_of_getElem? (i := 541) (by decide +kernel)) (by decide +kernel)
theorem lkX5_159 : Cond.methodLink RX5 159 yX3_partsOf ∈ sp_T := sp_inT (List.mem_of_getElem? (i := 545) (by decide +kernel)) (by decide +kernel)
theorem lkX3_49 : Cond.methodLink RX3 49 yX3_visitPart ∈ sp_T := sp_inT (List.mem_of_getElem? (i := 549) (by decide +kernel)) (by decide +kernel)
theorem lkX3_53 : Cond.methodLink RX3 53 yX3_neighbour ∈ sp_T := sp_inT (List.mem_of_getElem? (i := 553) (by decide +kernel)) (by decide +kernel)
theorem lkL_70 : Cond.methodLink RL 70 yX5_without ∈ sp_T := sp_inT (List.mem_of_getElem? (i := 562) (by decide +kernel)) (by decide +kernel)
theorem lkL_74 : Cond.methodLink RL 74 yX5_border ∈ sp_T := sp_inT (List.mem_of_getElem? (i := 566) (by decide +kernel)) (by decide +kernel)
theorem lkX5_177 : Cond.methodLink RX5 177 yX3_unlikePairs ∈ sp_T := sp_inT (List.mem_of_getElem? (i := 570) (by decide +kernel)) (by decide +kernel)
theorem lkL_78 : Cond.methodLink RL 78 yX5_beside ∈ sp_T := sp_inT (List.mem_of_getElem? (i := 574) (by decide +kernel)) (by decide +kernel)
theorem lkX5_180 : Cond.methodLink RX5 180 yX3_pairsOf ∈ sp_T := sp_inT (List.mem_of_getElem? (i := 578) (by decide +kernel)) (by decide +kernel)
theorem lkX3_56 : Cond.methodLink RX3 56 yX3_arePair ∈ sp_T := sp_inT (List.mem_of_getElem? (i := 582) (by decide +kernel)) (by decide +kernel)
theorem lkL_82 : Cond.methodLink RL 82 yX5_unlike ∈ sp_T := sp_inT (List.mem_of_getElem? (i := 585) (by decide +kernel)) (by decide +kernel)
theorem lkX5_183 : Cond.methodLink RX5 183 yX4_isOn ∈ sp_T := sp_inT (List.mem_of_getElem? (i := 589) (by decide +kernel)) (by decide +kernel)
theorem lkL_86 : Cond.methodLink RL 86 yX5_odd ∈ sp_T := sp_inT (List.mem_of_getElem? (i := 593) (by decide +kernel)) (by decide +kernel)
theorem lkX5_186 : Cond.methodLink RX5 186 yX3_fewestVoters ∈ sp_T := sp_inT (List.mem_of_getElem? (i := 597) (by decide +kernel)) (by decide +kernel)
theorem lkX3_60 : Cond.methodLink RX3 60 yX3_votersOf ∈ sp_T := sp_inT (List.mem_of_getElem? (i := 601) (by decide +kernel)) (by decide +kernel)
theorem lkX5_189 : Cond.methodLink RX5 189 yX3_mostParts ∈ sp_T := sp_inT (List.mem_of_getElem? (i := 602) (by decide +kernel)) (by decide +kernel)
theorem lkX3_64 : Cond.methodLink RX3 64 yX3_partsOf ∈ sp_T := sp_inT (List.mem_of_getElem? (i := 606) (by decide +kernel)) (by decide +kernel)
theorem lkL_90 : Cond.methodLink RL 90 yX5_paper ∈ sp_T := sp_inT (List.mem_of_getElem? (i := 607) (by decide +kernel)) (by decide +kernel)
theorem lkX5_192 : Cond.methodLink RX5 192 yX0_setColumns ∈ sp_T := sp_inT (List.mem_of_getElem? (i := 611) (by decide +kernel)) (by decide +kernel)
theorem lkX5_195 : Cond.methodLink RX5 195 yX0_setDepth ∈ sp_T := sp_inT (List.mem_of_getElem? (i := 615) (by decide +kernel)) (by decide +kernel)
theorem lkX5_198 : Cond.methodLink RX5 198 yX0_setRule ∈ sp_T := sp_inT (List.mem_of_getElem? (i := 619) (by decide +kernel)) (by decide +kernel)
theorem lkL_94 : Cond.methodLink RL 94 yX5_faces ∈ sp_T := sp_inT (List.mem_of_getElem? (i := 623) (by decide +kernel)) (by decide +kernel)
theorem lkX5_204 : Cond.methodLink RX5 204 yX5_sheetsOf ∈ sp_T := sp_inT (List.mem_of_getElem? (i := 627) (by decide +kernel)) (by decide +kernel)
theorem lkX5_207 : Cond.methodLink RX5 207 yX0_layContests ∈ sp_T := sp_inT (List.mem_of_getElem? (i := 631) (by decide +kernel)) (by decide +kernel)
theorem lkX0_44 : Cond.methodLink RX0 44 yX0_beginSheet ∈ sp_T := sp_inT (List.mem_of_getElem? (i := 635) (by decide +kernel)) (by decide +kernel)
theorem lkX0_47 : Cond.methodLink RX0 47 yX4_isOn ∈ sp_T := sp_inT (List.mem_of_getElem? (i := 639) (by decide +kernel)) (by decide +kernel)
theorem lkX0_53 : Cond.methodLink RX0 53 yX4_heightAt ∈ sp_T := sp_inT (List.mem_of_getElem? (i := 640) (by decide +kernel)) (by decide +kernel)
theorem lkX4_35 : Cond.methodLink RX4 35 yX4_namesOf ∈ sp_T := sp_inT (List.mem_of_getElem? (i := 644) (by decide +kernel)) (by decide +kernel)
theorem lkX0_57 : Cond.methodLink RX0 57 yX0_layOne ∈ sp_T := sp_inT (List.mem_of_getElem? (i := 648) (by decide +kernel)) (by decide +kernel)
theorem lkX0_61 : Cond.methodLink RX0 61 yX0_columnFor ∈ sp_T := sp_inT (List.mem_of_getElem? (i := 652) (by decide +kernel)) (by decide +kernel)
theorem lkX0_64 : Cond.methodLink RX0 64 yX0_nextColumn ∈ sp_T := sp_inT (List.mem_of_getElem? (i := 656) (by decide +kernel)) (by decide +kernel)
theorem lkX0_68 : Cond.methodLink RX0 68 yX0_firstColumn ∈ sp_T := sp_inT (List.mem_of_getElem? (i := 660) (by decide +kernel)) (by decide +kernel)
theorem lkX0_71 : Cond.methodLink RX0 71 yX0_tightColumn ∈ sp_T := sp_inT (List.mem_of_getElem? (i := 664) (by decide +kernel)) (by decide +kernel)
theorem lkX0_74 : Cond.methodLink RX0 74 yX0_looseColumn ∈ sp_T := sp_inT (List.mem_of_getElem? (i := 668) (by decide +kernel)) (by decide +kernel)
theorem lkL_98 : Cond.methodLink RL 98 yX5_contest ∈ sp_T := sp_inT (List.mem_of_getElem? (i := 672) (by decide +kernel)) (by decide +kernel)
theorem lkX5_217 : Cond.methodLink RX5 217 yX4_heightAt ∈ sp_T := sp_inT (List.mem_of_getElem? (i := 676) (by decide +kernel)) (by decide +kernel)
theorem lkL_102 : Cond.methodLink RL 102 yX5_room ∈ sp_T := sp_inT (List.mem_of_getElem? (i := 677) (by decide +kernel)) (by decide +kernel)
theorem lkX5_227 : Cond.methodLink RX5 227 yX5_sheetsOfAll ∈ sp_T := sp_inT (List.mem_of_getElem? (i := 681) (by decide +kernel)) (by decide +kernel)
theorem lkX5_230 : Cond.methodLink RX5 230 yX0_roomLeft ∈ sp_T := sp_inT (List.mem_of_getElem? (i := 685) (by decide +kernel)) (by decide +kernel)
theorem lkL_106 : Cond.methodLink RL 106 yX5_rule ∈ sp_T := sp_inT (List.mem_of_getElem? (i := 689) (by decide +kernel)) (by decide +kernel)
theorem lkX5_233 : Cond.methodLink RX5 233 yX5_hasBareStyle ∈ sp_T := sp_inT (List.mem_of_getElem? (i := 693) (by decide +kernel)) (by decide +kernel)
theorem lkL_110 : Cond.methodLink RL 110 yX5_leads ∈ sp_T := sp_inT (List.mem_of_getElem? (i := 697) (by decide +kernel)) (by decide +kernel)
theorem lkX5_236 : Cond.methodLink RX5 236 yX4_leaderIn ∈ sp_T := sp_inT (List.mem_of_getElem? (i := 701) (by decide +kernel)) (by decide +kernel)
theorem lkX4_63 : Cond.methodLink RX4 63 yX4_nextLeader ∈ sp_T := sp_inT (List.mem_of_getElem? (i := 705) (by decide +kernel)) (by decide +kernel)
theorem lkL_114 : Cond.methodLink RL 114 yX5_lead ∈ sp_T := sp_inT (List.mem_of_getElem? (i := 709) (by decide +kernel)) (by decide +kernel)
theorem lkX5_239 : Cond.methodLink RX5 239 yX5_isName ∈ sp_T := sp_inT (List.mem_of_getElem? (i := 713) (by decide +kernel)) (by decide +kernel)
theorem lkX5_242 : Cond.methodLink RX5 242 yX4_namesOf ∈ sp_T := sp_inT (List.mem_of_getElem? (i := 716) (by decide +kernel)) (by decide +kernel)
theorem lkX5_245 : Cond.methodLink RX5 245 yX4_ledBy ∈ sp_T := sp_inT (List.mem_of_getElem? (i := 717) (by decide +kernel)) (by decide +kernel)
theorem lkL_118 : Cond.methodLink RL 118 yX5_fair ∈ sp_T := sp_inT (List.mem_of_getElem? (i := 721) (by decide +kernel)) (by decide +kernel)
theorem lkL_122 : Cond.methodLink RL 122 yX5_place ∈ sp_T := sp_inT (List.mem_of_getElem? (i := 727) (by decide +kernel)) (by decide +kernel)
theorem lkL_126 : Cond.methodLink RL 126 yX5_told ∈ sp_T := sp_inT (List.mem_of_getElem? (i := 731) (by decide +kernel)) (by decide +kernel)
theorem lkX5_257 : Cond.methodLink RX5 257 yX5_counter ∈ sp_T := sp_inT (List.mem_of_getElem? (i := 735) (by decide +kernel)) (by decide +kernel)
theorem lkL_130 : Cond.methodLink RL 130 yX5_digest ∈ sp_T := sp_inT (List.mem_of_getElem? (i := 739) (by decide +kernel)) (by decide +kernel)
theorem kcX5_260 : Cond.constantLong RX5 260 (Int64.ofInt 2027) ∈ sp_T := sp_inT (List.mem_of_getElem? (i := 743) (by decide +kernel)) (by decide +kernel)
theorem kcX5_262 : Cond.constantLong RX5 262 (Int64.ofInt 31) ∈ sp_T := sp_inT (List.mem_of_getElem? (i := 744) (by decide +kernel)) (by decide +kernel)
theorem flX6_7 : sp_fl RX6 7 6 0 := ⟨RX6, TX6, 20, rfl, by decide, sp_inT (List.mem_of_getElem? (i := 751) (by decide +kernel)) (by decide +kernel)⟩
theorem flX6_13 : sp_fl RX6 13 6 1 := ⟨RX6, TX6, 20, rfl, by decide, sp_inT (List.mem_of_getElem? (i := 752) (by decide +kernel)) (by decide +kernel)⟩
theorem flX6_57 : sp_fl RX6 57 6 2 := ⟨RX6, TX6, 20, rfl, by decide, sp_inT (List.mem_of_getElem? (i := 753) (by decide +kernel)) (by decide +kernel)⟩
theorem flX6_16 : sp_fl RX6 16 6 3 := ⟨RX6, TX6, 20, rfl, by decide, sp_inT (List.mem_of_getElem? (i := 754) (by decide +kernel)) (by decide +kernel)⟩
theorem flX6_19 : sp_fl RX6 19 6 4 := ⟨RX6, TX6, 20, rfl, by decide, sp_inT (List.mem_of_getElem? (i := 755) (by decide +kernel)) (by decide +kernel)⟩
theorem flX6_22 : sp_fl RX6 22 6 5 := ⟨RX6, TX6, 20, rfl, by decide, sp_inT (List.mem_of_getElem? (i := 756) (by decide +kernel)) (by decide +kernel)⟩
theorem flX6_115 : sp_fl RX6 115 6 6 := ⟨RX6, TX6, 20, rfl, by decide, sp_inT (List.mem_of_getElem? (i := 757) (by decide +kernel)) (by decide +kernel)⟩
theorem flX6_118 : sp_fl RX6 118 6 7 := ⟨RX6, TX6, 20, rfl, by decide, sp_inT (List.mem_of_getElem? (i := 758) (by decide +kernel)) (by decide +kernel)⟩
theorem flX6_25 : sp_fl RX6 25 6 8 := ⟨RX6, TX6, 20, rfl, by decide, sp_inT (List.mem_of_getElem? (i := 759) (by decide +kernel)) (by decide +kernel)⟩
theorem flX6_28 : sp_fl RX6 28 6 9 := ⟨RX6, TX6, 20, rfl, by decide, sp_inT (List.mem_of_getElem? (i := 760) (by decide +kernel)) (by decide +kernel)⟩
theorem flX6_32 : sp_fl RX6 32 6 10 := ⟨RX6, TX6, 20, rfl, by decide, sp_inT (List.mem_of_getElem? (i := 761) (by decide +kernel)) (by decide +kernel)⟩
theorem flX6_35 : sp_fl RX6 35 6 11 := ⟨RX6, TX6, 20, rfl, by decide, sp_inT (List.mem_of_getElem? (i := 762) (by decide +kernel)) (by decide +kernel)⟩
theorem flX6_152 : sp_fl RX6 152 6 12 := ⟨RX6, TX6, 20, rfl, by decide, sp_inT (List.mem_of_getElem? (i := 763) (by decide +kernel)) (by decide +kernel)⟩
theorem flX6_38 : sp_fl RX6 38 6 13 := ⟨RX6, TX6, 20, rfl, by decide, sp_inT (List.mem_of_getElem? (i := 764) (by decide +kernel)) (by decide +kernel)⟩
theorem flX6_41 : sp_fl RX6 41 6 14 := ⟨RX6, TX6, 20, rfl, by decide, sp_inT (List.mem_of_getElem? (i := 765) (by decide +kernel)) (by decide +kernel)⟩
theorem flX6_44 : sp_fl RX6 44 6 15 := ⟨RX6, TX6, 20, rfl, by decide, sp_inT (List.mem_of_getElem? (i := 766) (by decide +kernel)) (by decide +kernel)⟩
theorem flX6_47 : sp_fl RX6 47 6 16 := ⟨RX6, TX6, 20, rfl, by decide, sp_inT (List.mem_of_getElem? (i := 767) (by decide +kernel)) (by decide +kernel)⟩
theorem flX6_185 : sp_fl RX6 185 6 17 := ⟨RX6, TX6, 20, rfl, by decide, sp_inT (List.mem_of_getElem? (i := 768) (by decide +kernel)) (by decide +kernel)⟩
theorem flX6_50 : sp_fl RX6 50 6 18 := ⟨RX6, TX6, 20, rfl, by decide, sp_inT (List.mem_of_getElem? (i := 769) (by decide +kernel)) (by decide +kernel)⟩
theorem flX6_182 : sp_fl RX6 182 6 19 := ⟨RX6, TX6, 20, rfl, by decide, sp_inT (List.mem_of_getElem? (i := 770) (by decide +kernel)) (by decide +kernel)⟩
theorem lkL_17 : Cond.methodLink RL 17 yX6_on ∈ sp_T := sp_inT (List.mem_of_getElem? (i := 813) (by decide +kernel)) (by decide +kernel)
theorem lkX6_65 : Cond.methodLink RX6 65 yX6_isLayer ∈ sp_T := sp_inT (List.mem_of_getElem? (i := 817) (by decide +kernel)) (by decide +kernel)
theorem lkX6_53 : Cond.methodLink RX6 53 yX6_in ∈ sp_T := sp_inT (List.mem_of_getElem? (i := 820) (by decide +kernel)) (by decide +kernel)
theorem lkX6_68 : Cond.methodLink RX6 68 yX6_refuses ∈ sp_T := sp_inT (List.mem_of_getElem? (i := 823) (by decide +kernel)) (by decide +kernel)
theorem lkX6_72 : Cond.methodLink RX6 72 yX6_keeps ∈ sp_T := sp_inT (List.mem_of_getElem? (i := 827) (by decide +kernel)) (by decide +kernel)
theorem lkX6_75 : Cond.methodLink RX6 75 yX6_turns ∈ sp_T := sp_inT (List.mem_of_getElem? (i := 831) (by decide +kernel)) (by decide +kernel)
theorem lkX6_61 : Cond.methodLink RX6 61 yX6_isOn ∈ sp_T := sp_inT (List.mem_of_getElem? (i := 835) (by decide +kernel)) (by decide +kernel)
theorem lkL_22 : Cond.methodLink RL 22 yX6_puts ∈ sp_T := sp_inT (List.mem_of_getElem? (i := 839) (by decide +kernel)) (by decide +kernel)
theorem lkX6_82 : Cond.methodLink RX6 82 yX6_isDistrict ∈ sp_T := sp_inT (List.mem_of_getElem? (i := 843) (by decide +kernel)) (by decide +kernel)
theorem lkX6_85 : Cond.methodLink RX6 85 yX6_isBlock ∈ sp_T := sp_inT (List.mem_of_getElem? (i := 846) (by decide +kernel)) (by decide +kernel)
theorem lkX6_88 : Cond.methodLink RX6 88 yX6_isRectangle ∈ sp_T := sp_inT (List.mem_of_getElem? (i := 849) (by decide +kernel)) (by decide +kernel)
theorem lkX6_92 : Cond.methodLink RX6 92 yX6_lays ∈ sp_T := sp_inT (List.mem_of_getElem? (i := 852) (by decide +kernel)) (by decide +kernel)
theorem lkX6_79 : Cond.methodLink RX6 79 yX6_district ∈ sp_T := sp_inT (List.mem_of_getElem? (i := 856) (by decide +kernel)) (by decide +kernel)
theorem lkL_27 : Cond.methodLink RL 27 yX6_names ∈ sp_T := sp_inT (List.mem_of_getElem? (i := 860) (by decide +kernel)) (by decide +kernel)
theorem lkX6_96 : Cond.methodLink RX6 96 yX6_becomes ∈ sp_T := sp_inT (List.mem_of_getElem? (i := 864) (by decide +kernel)) (by decide +kernel)
theorem lkL_31 : Cond.methodLink RL 31 yX6_voters ∈ sp_T := sp_inT (List.mem_of_getElem? (i := 868) (by decide +kernel)) (by decide +kernel)
theorem lkL_35 : Cond.methodLink RL 35 yX6_draw ∈ sp_T := sp_inT (List.mem_of_getElem? (i := 872) (by decide +kernel)) (by decide +kernel)
theorem kcX6_99 : Cond.constant RX6 99 (Int32.ofInt 999999) ∈ sp_T := sp_inT (List.mem_of_getElem? (i := 876) (by decide +kernel)) (by decide +kernel)
theorem kcX6_100 : Cond.constantLong RX6 100 (Int64.ofInt 1103515245) ∈ sp_T := sp_inT (List.mem_of_getElem? (i := 877) (by decide +kernel)) (by decide +kernel)
theorem kcX6_102 : Cond.constantLong RX6 102 (Int64.ofInt 12345) ∈ sp_T := sp_inT (List.mem_of_getElem? (i := 878) (by decide +kernel)) (by decide +kernel)
theorem kcX6_104 : Cond.constantLong RX6 104 (Int64.ofInt 2147483648) ∈ sp_T := sp_inT (List.mem_of_getElem? (i := 879) (by decide +kernel)) (by decide +kernel)
theorem kcX6_106 : Cond.constantLong RX6 106 (Int64.ofInt 65536) ∈ sp_T := sp_inT (List.mem_of_getElem? (i := 880) (by decide +kernel)) (by decide +kernel)
theorem kcX6_108 : Cond.constantLong RX6 108 (Int64.ofInt 1024) ∈ sp_T := sp_inT (List.mem_of_getElem? (i := 881) (by decide +kernel)) (by decide +kernel)
theorem kcX6_110 : Cond.constantLong RX6 110 (Int64.ofInt 30) ∈ sp_T := sp_inT (List.mem_of_getElem? (i := 882) (by decide +kernel)) (by decide +kernel)
theorem lkL_39 : Cond.methodLink RL 39 yX6_follows ∈ sp_T := sp_inT (List.mem_of_getElem? (i := 883) (by decide +kernel)) (by decide +kernel)
theorem lkL_44 : Cond.methodLink RL 44 yX6_undo ∈ sp_T := sp_inT (List.mem_of_getElem? (i := 887) (by decide +kernel)) (by decide +kernel)
theorem lkL_48 : Cond.methodLink RL 48 yX6_of ∈ sp_T := sp_inT (List.mem_of_getElem? (i := 891) (by decide +kernel)) (by decide +kernel)
theorem lkX6_112 : Cond.methodLink RX6 112 yX6_finds ∈ sp_T := sp_inT (List.mem_of_getElem? (i := 895) (by decide +kernel)) (by decide +kernel)
theorem lkX6_155 : Cond.methodLink RX6 155 yX6_isLike ∈ sp_T := sp_inT (List.mem_of_getElem? (i := 899) (by decide +kernel)) (by decide +kernel)
theorem lkL_53 : Cond.methodLink RL 53 yX6_type ∈ sp_T := sp_inT (List.mem_of_getElem? (i := 903) (by decide +kernel)) (by decide +kernel)
theorem lkL_57 : Cond.methodLink RL 57 yX6_clear ∈ sp_T := sp_inT (List.mem_of_getElem? (i := 907) (by decide +kernel)) (by decide +kernel)
theorem lkL_61 : Cond.methodLink RL 61 yX6_does ∈ sp_T := sp_inT (List.mem_of_getElem? (i := 911) (by decide +kernel)) (by decide +kernel)
theorem lkX6_148 : Cond.methodLink RX6 148 yX6_goesThrough ∈ sp_T := sp_inT (List.mem_of_getElem? (i := 915) (by decide +kernel)) (by decide +kernel)
theorem lkX6_124 : Cond.methodLink RX6 124 yX6_skips ∈ sp_T := sp_inT (List.mem_of_getElem? (i := 919) (by decide +kernel)) (by decide +kernel)
theorem lkX6_121 : Cond.methodLink RX6 121 yX6_byteAt ∈ sp_T := sp_inT (List.mem_of_getElem? (i := 923) (by decide +kernel)) (by decide +kernel)
theorem lkX6_141 : Cond.methodLink RX6 141 yX6_order ∈ sp_T := sp_inT (List.mem_of_getElem? (i := 927) (by decide +kernel)) (by decide +kernel)
theorem lkX6_133 : Cond.methodLink RX6 133 yX6_word ∈ sp_T := sp_inT (List.mem_of_getElem? (i := 931) (by decide +kernel)) (by decide +kernel)
theorem lkX6_127 : Cond.methodLink RX6 127 yX6_isWord ∈ sp_T := sp_inT (List.mem_of_getElem? (i := 935) (by decide +kernel)) (by decide +kernel)
theorem lkX6_130 : Cond.methodLink RX6 130 yX6_isNumber ∈ sp_T := sp_inT (List.mem_of_getElem? (i := 939) (by decide +kernel)) (by decide +kernel)
theorem lkX6_137 : Cond.methodLink RX6 137 yX6_isEnd ∈ sp_T := sp_inT (List.mem_of_getElem? (i := 943) (by decide +kernel)) (by decide +kernel)
theorem lkX6_144 : Cond.methodLink RX6 144 yX6_done ∈ sp_T := sp_inT (List.mem_of_getElem? (i := 947) (by decide +kernel)) (by decide +kernel)
theorem lkL_65 : Cond.methodLink RL 65 yX6_styles ∈ sp_T := sp_inT (List.mem_of_getElem? (i := 951) (by decide +kernel)) (by decide +kernel)
theorem lkL_69 : Cond.methodLink RL 69 yX6_style ∈ sp_T := sp_inT (List.mem_of_getElem? (i := 955) (by decide +kernel)) (by decide +kernel)
theorem lkX6_161 : Cond.methodLink RX6 161 yX6_isStyle ∈ sp_T := sp_inT (List.mem_of_getElem? (i := 959) (by decide +kernel)) (by decide +kernel)
theorem lkX6_164 : Cond.methodLink RX6 164 yX6_blocksOf ∈ sp_T := sp_inT (List.mem_of_getElem? (i := 963) (by decide +kernel)) (by decide +kernel)
theorem lkX6_167 : Cond.methodLink RX6 167 yX6_votersOf ∈ sp_T := sp_inT (List.mem_of_getElem? (i := 967) (by decide +kernel)) (by decide +kernel)
theorem lkX6_170 : Cond.methodLink RX6 170 yX6_partsOf ∈ sp_T := sp_inT (List.mem_of_getElem? (i := 971) (by decide +kernel)) (by decide +kernel)
theorem lkX6_158 : Cond.methodLink RX6 158 yX6_isBeside ∈ sp_T := sp_inT (List.mem_of_getElem? (i := 975) (by decide +kernel)) (by decide +kernel)
theorem lkX6_173 : Cond.methodLink RX6 173 yX6_contestsOn ∈ sp_T := sp_inT (List.mem_of_getElem? (i := 978) (by decide +kernel)) (by decide +kernel)
theorem lkL_73 : Cond.methodLink RL 73 yX6_without ∈ sp_T := sp_inT (List.mem_of_getElem? (i := 982) (by decide +kernel)) (by decide +kernel)
theorem lkL_77 : Cond.methodLink RL 77 yX6_border ∈ sp_T := sp_inT (List.mem_of_getElem? (i := 986) (by decide +kernel)) (by decide +kernel)
theorem lkX6_176 : Cond.methodLink RX6 176 yX6_borderOf ∈ sp_T := sp_inT (List.mem_of_getElem? (i := 990) (by decide +kernel)) (by decide +kernel)
theorem lkL_81 : Cond.methodLink RL 81 yX6_beside ∈ sp_T := sp_inT (List.mem_of_getElem? (i := 994) (by decide +kernel)) (by decide +kernel)
theorem lkL_85 : Cond.methodLink RL 85 yX6_unlike ∈ sp_T := sp_inT (List.mem_of_getElem? (i := 998) (by decide +kernel)) (by decide +kernel)
theorem lkL_89 : Cond.methodLink RL 89 yX6_odd ∈ sp_T := sp_inT (List.mem_of_getElem? (i := 1002) (by decide +kernel)) (by decide +kernel)
theorem lkL_93 : Cond.methodLink RL 93 yX6_paper ∈ sp_T := sp_inT (List.mem_of_getElem? (i := 1006) (by decide +kernel)) (by decide +kernel)
theorem lkL_97 : Cond.methodLink RL 97 yX6_faces ∈ sp_T := sp_inT (List.mem_of_getElem? (i := 1010) (by decide +kernel)) (by decide +kernel)
theorem lkX6_198 : Cond.methodLink RX6 198 yX6_prints ∈ sp_T := sp_inT (List.mem_of_getElem? (i := 1014) (by decide +kernel)) (by decide +kernel)
theorem lkX6_188 : Cond.methodLink RX6 188 yX6_begins ∈ sp_T := sp_inT (List.mem_of_getElem? (i := 1018) (by decide +kernel)) (by decide +kernel)
theorem lkX6_191 : Cond.methodLink RX6 191 yX6_heightOf ∈ sp_T := sp_inT (List.mem_of_getElem? (i := 1022) (by decide +kernel)) (by decide +kernel)
theorem lkX6_179 : Cond.methodLink RX6 179 yX6_namesOf ∈ sp_T := sp_inT (List.mem_of_getElem? (i := 1026) (by decide +kernel)) (by decide +kernel)
theorem lkX6_194 : Cond.methodLink RX6 194 yX6_columnBy ∈ sp_T := sp_inT (List.mem_of_getElem? (i := 1030) (by decide +kernel)) (by decide +kernel)
theorem lkL_101 : Cond.methodLink RL 101 yX6_contest ∈ sp_T := sp_inT (List.mem_of_getElem? (i := 1034) (by decide +kernel)) (by decide +kernel)
theorem lkL_105 : Cond.methodLink RL 105 yX6_room ∈ sp_T := sp_inT (List.mem_of_getElem? (i := 1038) (by decide +kernel)) (by decide +kernel)
theorem lkX6_201 : Cond.methodLink RX6 201 yX6_facesBy ∈ sp_T := sp_inT (List.mem_of_getElem? (i := 1042) (by decide +kernel)) (by decide +kernel)
theorem lkL_109 : Cond.methodLink RL 109 yX6_rule ∈ sp_T := sp_inT (List.mem_of_getElem? (i := 1046) (by decide +kernel)) (by decide +kernel)
theorem lkL_113 : Cond.methodLink RL 113 yX6_leads ∈ sp_T := sp_inT (List.mem_of_getElem? (i := 1050) (by decide +kernel)) (by decide +kernel)
theorem lkX6_208 : Cond.methodLink RX6 208 yX6_leader ∈ sp_T := sp_inT (List.mem_of_getElem? (i := 1054) (by decide +kernel)) (by decide +kernel)
theorem lkX6_205 : Cond.methodLink RX6 205 yX6_rank ∈ sp_T := sp_inT (List.mem_of_getElem? (i := 1058) (by decide +kernel)) (by decide +kernel)
theorem lkL_117 : Cond.methodLink RL 117 yX6_lead ∈ sp_T := sp_inT (List.mem_of_getElem? (i := 1062) (by decide +kernel)) (by decide +kernel)
theorem lkX6_211 : Cond.methodLink RX6 211 yX6_leadOf ∈ sp_T := sp_inT (List.mem_of_getElem? (i := 1066) (by decide +kernel)) (by decide +kernel)
theorem lkL_121 : Cond.methodLink RL 121 yX6_fair ∈ sp_T := sp_inT (List.mem_of_getElem? (i := 1070) (by decide +kernel)) (by decide +kernel)
theorem kcX6_215 : Cond.constant RX6 215 (Int32.ofInt 99999) ∈ sp_T := sp_inT (List.mem_of_getElem? (i := 1074) (by decide +kernel)) (by decide +kernel)
theorem lkL_125 : Cond.methodLink RL 125 yX6_place ∈ sp_T := sp_inT (List.mem_of_getElem? (i := 1075) (by decide +kernel)) (by decide +kernel)
theorem lkL_129 : Cond.methodLink RL 129 yX6_told ∈ sp_T := sp_inT (List.mem_of_getElem? (i := 1079) (by decide +kernel)) (by decide +kernel)
theorem lkX6_216 : Cond.methodLink RX6 216 yX6_toldOf ∈ sp_T := sp_inT (List.mem_of_getElem? (i := 1083) (by decide +kernel)) (by decide +kernel)
theorem lkL_134 : Cond.methodLink RL 134 yX6_digest ∈ sp_T := sp_inT (List.mem_of_getElem? (i := 1087) (by decide +kernel)) (by decide +kernel)
theorem kcX6_219 : Cond.constantLong RX6 219 (Int64.ofInt 2027) ∈ sp_T := sp_inT (List.mem_of_getElem? (i := 1091) (by decide +kernel)) (by decide +kernel)
theorem kcX6_221 : Cond.constantLong RX6 221 (Int64.ofInt 31) ∈ sp_T := sp_inT (List.mem_of_getElem? (i := 1092) (by decide +kernel)) (by decide +kernel)
theorem fi_0_0 : sp_fi 0 0 false := ⟨RX0, TX0, 10, rfl, by decide, rfl, rfl⟩
theorem fi_0_1 : sp_fi 0 1 false := ⟨RX0, TX0, 10, rfl, by decide, rfl, rfl⟩
theorem fi_0_2 : sp_fi 0 2 false := ⟨RX0, TX0, 10, rfl, by decide, rfl, rfl⟩
theorem fi_0_6 : sp_fi 0 6 false := ⟨RX0, TX0, 10, rfl, by decide, rfl, rfl⟩
theorem fi_0_7 : sp_fi 0 7 false := ⟨RX0, TX0, 10, rfl, by decide, rfl, rfl⟩
theorem fi_0_8 : sp_fi 0 8 false := ⟨RX0, TX0, 10, rfl, by decide, rfl, rfl⟩
theorem fi_0_9 : sp_fi 0 9 true := ⟨RX0, TX0, 10, rfl, by decide, rfl, rfl⟩
theorem fi_1_1 : sp_fi 1 1 false := ⟨RX1, TX1, 3, rfl, by decide, rfl, rfl⟩
theorem fi_1_2 : sp_fi 1 2 false := ⟨RX1, TX1, 3, rfl, by decide, rfl, rfl⟩
theorem fi_2_1 : sp_fi 2 1 false := ⟨RX2, TX2, 7, rfl, by decide, rfl, rfl⟩
theorem fi_2_3 : sp_fi 2 3 false := ⟨RX2, TX2, 7, rfl, by decide, rfl, rfl⟩
theorem fi_2_4 : sp_fi 2 4 false := ⟨RX2, TX2, 7, rfl, by decide, rfl, rfl⟩
theorem fi_2_5 : sp_fi 2 5 false := ⟨RX2, TX2, 7, rfl, by decide, rfl, rfl⟩
theorem fi_2_6 : sp_fi 2 6 false := ⟨RX2, TX2, 7, rfl, by decide, rfl, rfl⟩
theorem fi_3_5 : sp_fi 3 5 false := ⟨RX3, TX3, 6, rfl, by decide, rfl, rfl⟩
theorem fi_4_3 : sp_fi 4 3 false := ⟨RX4, TX4, 4, rfl, by decide, rfl, rfl⟩
theorem fi_5_5 : sp_fi 5 5 false := ⟨RX5, TX5, 8, rfl, by decide, rfl, rfl⟩
theorem fi_5_6 : sp_fi 5 6 false := ⟨RX5, TX5, 8, rfl, by decide, rfl, rfl⟩
theorem fi_5_7 : sp_fi 5 7 false := ⟨RX5, TX5, 8, rfl, by decide, rfl, rfl⟩
theorem fi_6_2 : sp_fi 6 2 false := ⟨RX6, TX6, 20, rfl, by decide, rfl, rfl⟩
theorem fi_6_6 : sp_fi 6 6 false := ⟨RX6, TX6, 20, rfl, by decide, rfl, rfl⟩
theorem fi_6_7 : sp_fi 6 7 false := ⟨RX6, TX6, 20, rfl, by decide, rfl, rfl⟩
theorem fi_6_12 : sp_fi 6 12 false := ⟨RX6, TX6, 20, rfl, by decide, rfl, rfl⟩
theorem fi_6_17 : sp_fi 6 17 false := ⟨RX6, TX6, 20, rfl, by decide, rfl, rfl⟩
theorem fi_6_19 : sp_fi 6 19 false := ⟨RX6, TX6, 20, rfl, by decide, rfl, rfl⟩
