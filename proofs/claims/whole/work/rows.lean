section
-- ===== PART A: goes FIRST, ahead of the names: the tables' words, and 'selects' of the private methods out of them =====
/-- a private method of a class that the tables say can be made, by its rows of tables_1 -/
def lw_okq (q : MethodName × Nat) : Prop := (q.1.cls ≠ "java/lang/invoke/MethodHandle" ∧ q.1.cls ≠ "java/lang/invoke/VarHandle") ∧ Cond.instantiable q.1.cls q.2 ∈ tables_1 ∧ Cond.privateMethod q.1 ∈ tables_1 ∧ Cond.instanceMethod q.1 ∈ tables_1
theorem lw_p0 : lw_okq (⟨"StylePapers", "refuseBad", "()I"⟩, 8) := ⟨⟨by decide +kernel, by decide +kernel⟩, List.mem_of_getElem? (i := 16) (by decide +kernel), List.mem_of_getElem? (i := 207) (by decide +kernel), List.mem_of_getElem? (i := 208) (by decide +kernel)⟩
theorem lw_p1 : lw_okq (⟨"StylePapers", "refuseNo", "()I"⟩, 8) := ⟨⟨by decide +kernel, by decide +kernel⟩, List.mem_of_getElem? (i := 16) (by decide +kernel), List.mem_of_getElem? (i := 303) (by decide +kernel), List.mem_of_getElem? (i := 304) (by decide +kernel)⟩
theorem lw_p2 : lw_okq (⟨"StylePapers", "sortStyles", "()V"⟩, 8) := ⟨⟨by decide +kernel, by decide +kernel⟩, List.mem_of_getElem? (i := 16) (by decide +kernel), List.mem_of_getElem? (i := 315) (by decide +kernel), List.mem_of_getElem? (i := 316) (by decide +kernel)⟩
theorem lw_p3 : lw_okq (⟨"StylePapers$StyleMap", "styleWithKey", "(I)I"⟩, 6) := ⟨⟨by decide +kernel, by decide +kernel⟩, List.mem_of_getElem? (i := 67) (by decide +kernel), List.mem_of_getElem? (i := 327) (by decide +kernel), List.mem_of_getElem? (i := 328) (by decide +kernel)⟩
theorem lw_p4 : lw_okq (⟨"StylePapers", "refuseFull", "()I"⟩, 8) := ⟨⟨by decide +kernel, by decide +kernel⟩, List.mem_of_getElem? (i := 16) (by decide +kernel), List.mem_of_getElem? (i := 340) (by decide +kernel), List.mem_of_getElem? (i := 341) (by decide +kernel)⟩
theorem lw_p5 : lw_okq (⟨"StylePapers$Script", "readPiece", "()V"⟩, 7) := ⟨⟨by decide +kernel, by decide +kernel⟩, List.mem_of_getElem? (i := 141) (by decide +kernel), List.mem_of_getElem? (i := 365) (by decide +kernel), List.mem_of_getElem? (i := 366) (by decide +kernel)⟩
theorem lw_p6 : lw_okq (⟨"StylePapers$Script", "readOrder", "()I"⟩, 7) := ⟨⟨by decide +kernel, by decide +kernel⟩, List.mem_of_getElem? (i := 141) (by decide +kernel), List.mem_of_getElem? (i := 376) (by decide +kernel), List.mem_of_getElem? (i := 377) (by decide +kernel)⟩
theorem lw_p7 : lw_okq (⟨"StylePapers$Script", "orderHere", "()I"⟩, 7) := ⟨⟨by decide +kernel, by decide +kernel⟩, List.mem_of_getElem? (i := 141) (by decide +kernel), List.mem_of_getElem? (i := 380) (by decide +kernel), List.mem_of_getElem? (i := 381) (by decide +kernel)⟩
theorem lw_p8 : lw_okq (⟨"StylePapers$Script", "isHere", "(Ljava/lang/String;)Z"⟩, 7) := ⟨⟨by decide +kernel, by decide +kernel⟩, List.mem_of_getElem? (i := 141) (by decide +kernel), List.mem_of_getElem? (i := 392) (by decide +kernel), List.mem_of_getElem? (i := 393) (by decide +kernel)⟩
theorem lw_p9 : lw_okq (⟨"StylePapers$Script", "numberHere", "()I"⟩, 7) := ⟨⟨by decide +kernel, by decide +kernel⟩, List.mem_of_getElem? (i := 141) (by decide +kernel), List.mem_of_getElem? (i := 446) (by decide +kernel), List.mem_of_getElem? (i := 447) (by decide +kernel)⟩
theorem lw_p10 : lw_okq (⟨"StylePapers$Script", "isAsTold", "(II)Z"⟩, 7) := ⟨⟨by decide +kernel, by decide +kernel⟩, List.mem_of_getElem? (i := 141) (by decide +kernel), List.mem_of_getElem? (i := 450) (by decide +kernel), List.mem_of_getElem? (i := 451) (by decide +kernel)⟩
theorem lw_p11 : lw_okq (⟨"StylePapers", "isStyle", "(I)Z"⟩, 8) := ⟨⟨by decide +kernel, by decide +kernel⟩, List.mem_of_getElem? (i := 16) (by decide +kernel), List.mem_of_getElem? (i := 475) (by decide +kernel), List.mem_of_getElem? (i := 476) (by decide +kernel)⟩
theorem lw_p12 : lw_okq (⟨"StylePapers$StyleMap", "visitPart", "(I)V"⟩, 6) := ⟨⟨by decide +kernel, by decide +kernel⟩, List.mem_of_getElem? (i := 67) (by decide +kernel), List.mem_of_getElem? (i := 491) (by decide +kernel), List.mem_of_getElem? (i := 492) (by decide +kernel)⟩
theorem lw_p13 : lw_okq (⟨"StylePapers", "sheetsOf", "(II)I"⟩, 8) := ⟨⟨by decide +kernel, by decide +kernel⟩, List.mem_of_getElem? (i := 16) (by decide +kernel), List.mem_of_getElem? (i := 569) (by decide +kernel), List.mem_of_getElem? (i := 570) (by decide +kernel)⟩
theorem lw_p14 : lw_okq (⟨"StylePapers$Paper", "beginSheet", "()V"⟩, 10) := ⟨⟨by decide +kernel, by decide +kernel⟩, List.mem_of_getElem? (i := 96) (by decide +kernel), List.mem_of_getElem? (i := 577) (by decide +kernel), List.mem_of_getElem? (i := 578) (by decide +kernel)⟩
theorem lw_p15 : lw_okq (⟨"StylePapers$Paper", "layOne", "(II)V"⟩, 10) := ⟨⟨by decide +kernel, by decide +kernel⟩, List.mem_of_getElem? (i := 96) (by decide +kernel), List.mem_of_getElem? (i := 590) (by decide +kernel), List.mem_of_getElem? (i := 591) (by decide +kernel)⟩
def lw_privs_1 : List (MethodName × Nat) := [(⟨"StylePapers", "refuseBad", "()I"⟩, 8), (⟨"StylePapers", "refuseNo", "()I"⟩, 8), (⟨"StylePapers", "sortStyles", "()V"⟩, 8), (⟨"StylePapers$StyleMap", "styleWithKey", "(I)I"⟩, 6), (⟨"StylePapers", "refuseFull", "()I"⟩, 8), (⟨"StylePapers$Script", "readPiece", "()V"⟩, 7), (⟨"StylePapers$Script", "readOrder", "()I"⟩, 7), (⟨"StylePapers$Script", "orderHere", "()I"⟩, 7), (⟨"StylePapers$Script", "isHere", "(Ljava/lang/String;)Z"⟩, 7), (⟨"StylePapers$Script", "numberHere", "()I"⟩, 7), (⟨"StylePapers$Script", "isAsTold", "(II)Z"⟩, 7), (⟨"StylePapers", "isStyle", "(I)Z"⟩, 8), (⟨"StylePapers$StyleMap", "visitPart", "(I)V"⟩, 6), (⟨"StylePapers", "sheetsOf", "(II)I"⟩, 8), (⟨"StylePapers$Paper", "beginSheet", "()V"⟩, 10), (⟨"StylePapers$Paper", "layOne", "(II)V"⟩, 10)]
theorem lw_r1 : ∀ q ∈ lw_privs_1, lw_okq q := List.forall_mem_cons.mpr ⟨lw_p0, List.forall_mem_cons.mpr ⟨lw_p1, List.forall_mem_cons.mpr ⟨lw_p2, List.forall_mem_cons.mpr ⟨lw_p3, List.forall_mem_cons.mpr ⟨lw_p4, List.forall_mem_cons.mpr ⟨lw_p5, List.forall_mem_cons.mpr ⟨lw_p6, List.forall_mem_cons.mpr ⟨lw_p7, List.forall_mem_cons.mpr ⟨lw_p8, List.forall_mem_cons.mpr ⟨lw_p9, List.forall_mem_cons.mpr ⟨lw_p10, List.forall_mem_cons.mpr ⟨lw_p11, List.forall_mem_cons.mpr ⟨lw_p12, List.forall_mem_cons.mpr ⟨lw_p13, List.forall_mem_cons.mpr ⟨lw_p14, List.forall_mem_cons.mpr ⟨lw_p15, fun _ h => absurd h List.not_mem_nil⟩⟩⟩⟩⟩⟩⟩⟩⟩⟩⟩⟩⟩⟩⟩⟩
theorem lw_p16 : lw_okq (⟨"StylePapers$Paper", "columnFor", "(II)I"⟩, 10) := ⟨⟨by decide +kernel, by decide +kernel⟩, List.mem_of_getElem? (i := 96) (by decide +kernel), List.mem_of_getElem? (i := 594) (by decide +kernel), List.mem_of_getElem? (i := 595) (by decide +kernel)⟩
theorem lw_p17 : lw_okq (⟨"StylePapers$Paper", "nextColumn", "(I)I"⟩, 10) := ⟨⟨by decide +kernel, by decide +kernel⟩, List.mem_of_getElem? (i := 96) (by decide +kernel), List.mem_of_getElem? (i := 598) (by decide +kernel), List.mem_of_getElem? (i := 599) (by decide +kernel)⟩
theorem lw_p18 : lw_okq (⟨"StylePapers$Paper", "firstColumn", "(I)I"⟩, 10) := ⟨⟨by decide +kernel, by decide +kernel⟩, List.mem_of_getElem? (i := 96) (by decide +kernel), List.mem_of_getElem? (i := 602) (by decide +kernel), List.mem_of_getElem? (i := 603) (by decide +kernel)⟩
theorem lw_p19 : lw_okq (⟨"StylePapers$Paper", "tightColumn", "(I)I"⟩, 10) := ⟨⟨by decide +kernel, by decide +kernel⟩, List.mem_of_getElem? (i := 96) (by decide +kernel), List.mem_of_getElem? (i := 606) (by decide +kernel), List.mem_of_getElem? (i := 607) (by decide +kernel)⟩
theorem lw_p20 : lw_okq (⟨"StylePapers$Paper", "looseColumn", "(I)I"⟩, 10) := ⟨⟨by decide +kernel, by decide +kernel⟩, List.mem_of_getElem? (i := 96) (by decide +kernel), List.mem_of_getElem? (i := 610) (by decide +kernel), List.mem_of_getElem? (i := 611) (by decide +kernel)⟩
theorem lw_p21 : lw_okq (⟨"StylePapers", "sheetsOfAll", "(I)I"⟩, 8) := ⟨⟨by decide +kernel, by decide +kernel⟩, List.mem_of_getElem? (i := 16) (by decide +kernel), List.mem_of_getElem? (i := 623) (by decide +kernel), List.mem_of_getElem? (i := 624) (by decide +kernel)⟩
theorem lw_p22 : lw_okq (⟨"StylePapers", "hasBareStyle", "()Z"⟩, 8) := ⟨⟨by decide +kernel, by decide +kernel⟩, List.mem_of_getElem? (i := 16) (by decide +kernel), List.mem_of_getElem? (i := 635) (by decide +kernel), List.mem_of_getElem? (i := 636) (by decide +kernel)⟩
theorem lw_p23 : lw_okq (⟨"StylePapers$Town", "nextLeader", "(III)I"⟩, 4) := ⟨⟨by decide +kernel, by decide +kernel⟩, List.mem_of_getElem? (i := 24) (by decide +kernel), List.mem_of_getElem? (i := 647) (by decide +kernel), List.mem_of_getElem? (i := 648) (by decide +kernel)⟩
theorem lw_p24 : lw_okq (⟨"StylePapers", "counter", "(I)I"⟩, 8) := ⟨⟨by decide +kernel, by decide +kernel⟩, List.mem_of_getElem? (i := 16) (by decide +kernel), List.mem_of_getElem? (i := 677) (by decide +kernel), List.mem_of_getElem? (i := 678) (by decide +kernel)⟩
theorem lw_p25 : lw_okq (⟨"StylePapersModel", "refuses", "(I)I"⟩, 20) := ⟨⟨by decide +kernel, by decide +kernel⟩, List.mem_of_getElem? (i := 687) (by decide +kernel), List.mem_of_getElem? (i := 765) (by decide +kernel), List.mem_of_getElem? (i := 766) (by decide +kernel)⟩
theorem lw_p26 : lw_okq (⟨"StylePapersModel", "keeps", "()V"⟩, 20) := ⟨⟨by decide +kernel, by decide +kernel⟩, List.mem_of_getElem? (i := 687) (by decide +kernel), List.mem_of_getElem? (i := 769) (by decide +kernel), List.mem_of_getElem? (i := 770) (by decide +kernel)⟩
theorem lw_p27 : lw_okq (⟨"StylePapersModel", "turns", "(II)I"⟩, 20) := ⟨⟨by decide +kernel, by decide +kernel⟩, List.mem_of_getElem? (i := 687) (by decide +kernel), List.mem_of_getElem? (i := 773) (by decide +kernel), List.mem_of_getElem? (i := 774) (by decide +kernel)⟩
theorem lw_p28 : lw_okq (⟨"StylePapersModel", "isOn", "(I)Z"⟩, 20) := ⟨⟨by decide +kernel, by decide +kernel⟩, List.mem_of_getElem? (i := 687) (by decide +kernel), List.mem_of_getElem? (i := 777) (by decide +kernel), List.mem_of_getElem? (i := 778) (by decide +kernel)⟩
theorem lw_p29 : lw_okq (⟨"StylePapersModel", "lays", "(IIII)I"⟩, 20) := ⟨⟨by decide +kernel, by decide +kernel⟩, List.mem_of_getElem? (i := 687) (by decide +kernel), List.mem_of_getElem? (i := 794) (by decide +kernel), List.mem_of_getElem? (i := 795) (by decide +kernel)⟩
theorem lw_p30 : lw_okq (⟨"StylePapersModel", "district", "(II)I"⟩, 20) := ⟨⟨by decide +kernel, by decide +kernel⟩, List.mem_of_getElem? (i := 687) (by decide +kernel), List.mem_of_getElem? (i := 798) (by decide +kernel), List.mem_of_getElem? (i := 799) (by decide +kernel)⟩
theorem lw_p31 : lw_okq (⟨"StylePapersModel", "becomes", "(II)I"⟩, 20) := ⟨⟨by decide +kernel, by decide +kernel⟩, List.mem_of_getElem? (i := 687) (by decide +kernel), List.mem_of_getElem? (i := 806) (by decide +kernel), List.mem_of_getElem? (i := 807) (by decide +kernel)⟩
def lw_privs_2 : List (MethodName × Nat) := [(⟨"StylePapers$Paper", "columnFor", "(II)I"⟩, 10), (⟨"StylePapers$Paper", "nextColumn", "(I)I"⟩, 10), (⟨"StylePapers$Paper", "firstColumn", "(I)I"⟩, 10), (⟨"StylePapers$Paper", "tightColumn", "(I)I"⟩, 10), (⟨"StylePapers$Paper", "looseColumn", "(I)I"⟩, 10), (⟨"StylePapers", "sheetsOfAll", "(I)I"⟩, 8), (⟨"StylePapers", "hasBareStyle", "()Z"⟩, 8), (⟨"StylePapers$Town", "nextLeader", "(III)I"⟩, 4), (⟨"StylePapers", "counter", "(I)I"⟩, 8), (⟨"StylePapersModel", "refuses", "(I)I"⟩, 20), (⟨"StylePapersModel", "keeps", "()V"⟩, 20), (⟨"StylePapersModel", "turns", "(II)I"⟩, 20), (⟨"StylePapersModel", "isOn", "(I)Z"⟩, 20), (⟨"StylePapersModel", "lays", "(IIII)I"⟩, 20), (⟨"StylePapersModel", "district", "(II)I"⟩, 20), (⟨"StylePapersModel", "becomes", "(II)I"⟩, 20)]
theorem lw_r2 : ∀ q ∈ lw_privs_2, lw_okq q := List.forall_mem_cons.mpr ⟨lw_p16, List.forall_mem_cons.mpr ⟨lw_p17, List.forall_mem_cons.mpr ⟨lw_p18, List.forall_mem_cons.mpr ⟨lw_p19, List.forall_mem_cons.mpr ⟨lw_p20, List.forall_mem_cons.mpr ⟨lw_p21, List.forall_mem_cons.mpr ⟨lw_p22, List.forall_mem_cons.mpr ⟨lw_p23, List.forall_mem_cons.mpr ⟨lw_p24, List.forall_mem_cons.mpr ⟨lw_p25, List.forall_mem_cons.mpr ⟨lw_p26, List.forall_mem_cons.mpr ⟨lw_p27, List.forall_mem_cons.mpr ⟨lw_p28, List.forall_mem_cons.mpr ⟨lw_p29, List.forall_mem_cons.mpr ⟨lw_p30, List.forall_mem_cons.mpr ⟨lw_p31, fun _ h => absurd h List.not_mem_nil⟩⟩⟩⟩⟩⟩⟩⟩⟩⟩⟩⟩⟩⟩⟩⟩
theorem lw_p32 : lw_okq (⟨"StylePapersModel", "finds", "()V"⟩, 20) := ⟨⟨by decide +kernel, by decide +kernel⟩, List.mem_of_getElem? (i := 687) (by decide +kernel), List.mem_of_getElem? (i := 837) (by decide +kernel), List.mem_of_getElem? (i := 838) (by decide +kernel)⟩
theorem lw_p33 : lw_okq (⟨"StylePapersModel", "isLike", "(II)Z"⟩, 20) := ⟨⟨by decide +kernel, by decide +kernel⟩, List.mem_of_getElem? (i := 687) (by decide +kernel), List.mem_of_getElem? (i := 841) (by decide +kernel), List.mem_of_getElem? (i := 842) (by decide +kernel)⟩
theorem lw_p34 : lw_okq (⟨"StylePapersModel", "goesThrough", "(Z)I"⟩, 20) := ⟨⟨by decide +kernel, by decide +kernel⟩, List.mem_of_getElem? (i := 687) (by decide +kernel), List.mem_of_getElem? (i := 857) (by decide +kernel), List.mem_of_getElem? (i := 858) (by decide +kernel)⟩
theorem lw_p35 : lw_okq (⟨"StylePapersModel", "skips", "()V"⟩, 20) := ⟨⟨by decide +kernel, by decide +kernel⟩, List.mem_of_getElem? (i := 687) (by decide +kernel), List.mem_of_getElem? (i := 861) (by decide +kernel), List.mem_of_getElem? (i := 862) (by decide +kernel)⟩
theorem lw_p36 : lw_okq (⟨"StylePapersModel", "byteAt", "(I)I"⟩, 20) := ⟨⟨by decide +kernel, by decide +kernel⟩, List.mem_of_getElem? (i := 687) (by decide +kernel), List.mem_of_getElem? (i := 865) (by decide +kernel), List.mem_of_getElem? (i := 866) (by decide +kernel)⟩
theorem lw_p37 : lw_okq (⟨"StylePapersModel", "order", "()I"⟩, 20) := ⟨⟨by decide +kernel, by decide +kernel⟩, List.mem_of_getElem? (i := 687) (by decide +kernel), List.mem_of_getElem? (i := 869) (by decide +kernel), List.mem_of_getElem? (i := 870) (by decide +kernel)⟩
theorem lw_p38 : lw_okq (⟨"StylePapersModel", "word", "()I"⟩, 20) := ⟨⟨by decide +kernel, by decide +kernel⟩, List.mem_of_getElem? (i := 687) (by decide +kernel), List.mem_of_getElem? (i := 873) (by decide +kernel), List.mem_of_getElem? (i := 874) (by decide +kernel)⟩
theorem lw_p39 : lw_okq (⟨"StylePapersModel", "isWord", "(II)Z"⟩, 20) := ⟨⟨by decide +kernel, by decide +kernel⟩, List.mem_of_getElem? (i := 687) (by decide +kernel), List.mem_of_getElem? (i := 877) (by decide +kernel), List.mem_of_getElem? (i := 878) (by decide +kernel)⟩
theorem lw_p40 : lw_okq (⟨"StylePapersModel", "isNumber", "(III)Z"⟩, 20) := ⟨⟨by decide +kernel, by decide +kernel⟩, List.mem_of_getElem? (i := 687) (by decide +kernel), List.mem_of_getElem? (i := 881) (by decide +kernel), List.mem_of_getElem? (i := 882) (by decide +kernel)⟩
theorem lw_p41 : lw_okq (⟨"StylePapersModel", "isEnd", "()Z"⟩, 20) := ⟨⟨by decide +kernel, by decide +kernel⟩, List.mem_of_getElem? (i := 687) (by decide +kernel), List.mem_of_getElem? (i := 885) (by decide +kernel), List.mem_of_getElem? (i := 886) (by decide +kernel)⟩
theorem lw_p42 : lw_okq (⟨"StylePapersModel", "done", "(I)V"⟩, 20) := ⟨⟨by decide +kernel, by decide +kernel⟩, List.mem_of_getElem? (i := 687) (by decide +kernel), List.mem_of_getElem? (i := 889) (by decide +kernel), List.mem_of_getElem? (i := 890) (by decide +kernel)⟩
theorem lw_p43 : lw_okq (⟨"StylePapersModel", "isStyle", "(I)Z"⟩, 20) := ⟨⟨by decide +kernel, by decide +kernel⟩, List.mem_of_getElem? (i := 687) (by decide +kernel), List.mem_of_getElem? (i := 901) (by decide +kernel), List.mem_of_getElem? (i := 902) (by decide +kernel)⟩
theorem lw_p44 : lw_okq (⟨"StylePapersModel", "blocksOf", "(I)I"⟩, 20) := ⟨⟨by decide +kernel, by decide +kernel⟩, List.mem_of_getElem? (i := 687) (by decide +kernel), List.mem_of_getElem? (i := 905) (by decide +kernel), List.mem_of_getElem? (i := 906) (by decide +kernel)⟩
theorem lw_p45 : lw_okq (⟨"StylePapersModel", "votersOf", "(I)I"⟩, 20) := ⟨⟨by decide +kernel, by decide +kernel⟩, List.mem_of_getElem? (i := 687) (by decide +kernel), List.mem_of_getElem? (i := 909) (by decide +kernel), List.mem_of_getElem? (i := 910) (by decide +kernel)⟩
theorem lw_p46 : lw_okq (⟨"StylePapersModel", "partsOf", "(I)I"⟩, 20) := ⟨⟨by decide +kernel, by decide +kernel⟩, List.mem_of_getElem? (i := 687) (by decide +kernel), List.mem_of_getElem? (i := 913) (by decide +kernel), List.mem_of_getElem? (i := 914) (by decide +kernel)⟩
theorem lw_p47 : lw_okq (⟨"StylePapersModel", "contestsOn", "()I"⟩, 20) := ⟨⟨by decide +kernel, by decide +kernel⟩, List.mem_of_getElem? (i := 687) (by decide +kernel), List.mem_of_getElem? (i := 920) (by decide +kernel), List.mem_of_getElem? (i := 921) (by decide +kernel)⟩
def lw_privs_3 : List (MethodName × Nat) := [(⟨"StylePapersModel", "finds", "()V"⟩, 20), (⟨"StylePapersModel", "isLike", "(II)Z"⟩, 20), (⟨"StylePapersModel", "goesThrough", "(Z)I"⟩, 20), (⟨"StylePapersModel", "skips", "()V"⟩, 20), (⟨"StylePapersModel", "byteAt", "(I)I"⟩, 20), (⟨"StylePapersModel", "order", "()I"⟩, 20), (⟨"StylePapersModel", "word", "()I"⟩, 20), (⟨"StylePapersModel", "isWord", "(II)Z"⟩, 20), (⟨"StylePapersModel", "isNumber", "(III)Z"⟩, 20), (⟨"StylePapersModel", "isEnd", "()Z"⟩, 20), (⟨"StylePapersModel", "done", "(I)V"⟩, 20), (⟨"StylePapersModel", "isStyle", "(I)Z"⟩, 20), (⟨"StylePapersModel", "blocksOf", "(I)I"⟩, 20), (⟨"StylePapersModel", "votersOf", "(I)I"⟩, 20), (⟨"StylePapersModel", "partsOf", "(I)I"⟩, 20), (⟨"StylePapersModel", "contestsOn", "()I"⟩, 20)]
theorem lw_r3 : ∀ q ∈ lw_privs_3, lw_okq q := List.forall_mem_cons.mpr ⟨lw_p32, List.forall_mem_cons.mpr ⟨lw_p33, List.forall_mem_cons.mpr ⟨lw_p34, List.forall_mem_cons.mpr ⟨lw_p35, List.forall_mem_cons.mpr ⟨lw_p36, List.forall_mem_cons.mpr ⟨lw_p37, List.forall_mem_cons.mpr ⟨lw_p38, List.forall_mem_cons.mpr ⟨lw_p39, List.forall_mem_cons.mpr ⟨lw_p40, List.forall_mem_cons.mpr ⟨lw_p41, List.forall_mem_cons.mpr ⟨lw_p42, List.forall_mem_cons.mpr ⟨lw_p43, List.forall_mem_cons.mpr ⟨lw_p44, List.forall_mem_cons.mpr ⟨lw_p45, List.forall_mem_cons.mpr ⟨lw_p46, List.forall_mem_cons.mpr ⟨lw_p47, fun _ h => absurd h List.not_mem_nil⟩⟩⟩⟩⟩⟩⟩⟩⟩⟩⟩⟩⟩⟩⟩⟩
theorem lw_p48 : lw_okq (⟨"StylePapersModel", "borderOf", "()I"⟩, 20) := ⟨⟨by decide +kernel, by decide +kernel⟩, List.mem_of_getElem? (i := 687) (by decide +kernel), List.mem_of_getElem? (i := 932) (by decide +kernel), List.mem_of_getElem? (i := 933) (by decide +kernel)⟩
theorem lw_p49 : lw_okq (⟨"StylePapersModel", "prints", "(II)I"⟩, 20) := ⟨⟨by decide +kernel, by decide +kernel⟩, List.mem_of_getElem? (i := 687) (by decide +kernel), List.mem_of_getElem? (i := 956) (by decide +kernel), List.mem_of_getElem? (i := 957) (by decide +kernel)⟩
theorem lw_p50 : lw_okq (⟨"StylePapersModel", "begins", "()V"⟩, 20) := ⟨⟨by decide +kernel, by decide +kernel⟩, List.mem_of_getElem? (i := 687) (by decide +kernel), List.mem_of_getElem? (i := 960) (by decide +kernel), List.mem_of_getElem? (i := 961) (by decide +kernel)⟩
theorem lw_p51 : lw_okq (⟨"StylePapersModel", "heightOf", "(II)I"⟩, 20) := ⟨⟨by decide +kernel, by decide +kernel⟩, List.mem_of_getElem? (i := 687) (by decide +kernel), List.mem_of_getElem? (i := 964) (by decide +kernel), List.mem_of_getElem? (i := 965) (by decide +kernel)⟩
theorem lw_p52 : lw_okq (⟨"StylePapersModel", "namesOf", "(II)I"⟩, 20) := ⟨⟨by decide +kernel, by decide +kernel⟩, List.mem_of_getElem? (i := 687) (by decide +kernel), List.mem_of_getElem? (i := 968) (by decide +kernel), List.mem_of_getElem? (i := 969) (by decide +kernel)⟩
theorem lw_p53 : lw_okq (⟨"StylePapersModel", "columnBy", "(III)I"⟩, 20) := ⟨⟨by decide +kernel, by decide +kernel⟩, List.mem_of_getElem? (i := 687) (by decide +kernel), List.mem_of_getElem? (i := 972) (by decide +kernel), List.mem_of_getElem? (i := 973) (by decide +kernel)⟩
theorem lw_p54 : lw_okq (⟨"StylePapersModel", "facesBy", "(IZ)I"⟩, 20) := ⟨⟨by decide +kernel, by decide +kernel⟩, List.mem_of_getElem? (i := 687) (by decide +kernel), List.mem_of_getElem? (i := 984) (by decide +kernel), List.mem_of_getElem? (i := 985) (by decide +kernel)⟩
theorem lw_p55 : lw_okq (⟨"StylePapersModel", "leader", "(II)I"⟩, 20) := ⟨⟨by decide +kernel, by decide +kernel⟩, List.mem_of_getElem? (i := 687) (by decide +kernel), List.mem_of_getElem? (i := 996) (by decide +kernel), List.mem_of_getElem? (i := 997) (by decide +kernel)⟩
theorem lw_p56 : lw_okq (⟨"StylePapersModel", "rank", "(II)I"⟩, 20) := ⟨⟨by decide +kernel, by decide +kernel⟩, List.mem_of_getElem? (i := 687) (by decide +kernel), List.mem_of_getElem? (i := 1000) (by decide +kernel), List.mem_of_getElem? (i := 1001) (by decide +kernel)⟩
theorem lw_p57 : lw_okq (⟨"StylePapersModel", "leadOf", "(IIIZ)I"⟩, 20) := ⟨⟨by decide +kernel, by decide +kernel⟩, List.mem_of_getElem? (i := 687) (by decide +kernel), List.mem_of_getElem? (i := 1008) (by decide +kernel), List.mem_of_getElem? (i := 1009) (by decide +kernel)⟩
theorem lw_p58 : lw_okq (⟨"StylePapersModel", "toldOf", "(I)I"⟩, 20) := ⟨⟨by decide +kernel, by decide +kernel⟩, List.mem_of_getElem? (i := 687) (by decide +kernel), List.mem_of_getElem? (i := 1025) (by decide +kernel), List.mem_of_getElem? (i := 1026) (by decide +kernel)⟩
def lw_privs_4 : List (MethodName × Nat) := [(⟨"StylePapersModel", "borderOf", "()I"⟩, 20), (⟨"StylePapersModel", "prints", "(II)I"⟩, 20), (⟨"StylePapersModel", "begins", "()V"⟩, 20), (⟨"StylePapersModel", "heightOf", "(II)I"⟩, 20), (⟨"StylePapersModel", "namesOf", "(II)I"⟩, 20), (⟨"StylePapersModel", "columnBy", "(III)I"⟩, 20), (⟨"StylePapersModel", "facesBy", "(IZ)I"⟩, 20), (⟨"StylePapersModel", "leader", "(II)I"⟩, 20), (⟨"StylePapersModel", "rank", "(II)I"⟩, 20), (⟨"StylePapersModel", "leadOf", "(IIIZ)I"⟩, 20), (⟨"StylePapersModel", "toldOf", "(I)I"⟩, 20)]
theorem lw_r4 : ∀ q ∈ lw_privs_4, lw_okq q := List.forall_mem_cons.mpr ⟨lw_p48, List.forall_mem_cons.mpr ⟨lw_p49, List.forall_mem_cons.mpr ⟨lw_p50, List.forall_mem_cons.mpr ⟨lw_p51, List.forall_mem_cons.mpr ⟨lw_p52, List.forall_mem_cons.mpr ⟨lw_p53, List.forall_mem_cons.mpr ⟨lw_p54, List.forall_mem_cons.mpr ⟨lw_p55, List.forall_mem_cons.mpr ⟨lw_p56, List.forall_mem_cons.mpr ⟨lw_p57, List.forall_mem_cons.mpr ⟨lw_p58, fun _ h => absurd h List.not_mem_nil⟩⟩⟩⟩⟩⟩⟩⟩⟩⟩⟩
def lw_privs : List (MethodName × Nat) := lw_privs_1 ++ (lw_privs_2 ++ (lw_privs_3 ++ (lw_privs_4)))
def lw_tbl : List Cond := k2_sels lw_privs ++ tables_1
theorem lw_privs_ok : ∀ q ∈ lw_privs, lw_okq q := by
  show ∀ q ∈ lw_privs_1 ++ (lw_privs_2 ++ (lw_privs_3 ++ (lw_privs_4))), lw_okq q
  exact List.forall_mem_append.mpr ⟨lw_r1, List.forall_mem_append.mpr ⟨lw_r2, List.forall_mem_append.mpr ⟨lw_r3, lw_r4⟩⟩⟩
-- ===== end of PART A; then your names; then what follows =====
end
section
theorem goodIn_r {big : List Cond} (ws : List Cond) (ps : List Nat) (hp : ws = ps.filterMap (fun i => big[i]?)) (h : ws.all goodWord = true) : GoodIn big ws := by
  intro w hw
  have h1 := List.all_eq_true.mp h w hw
  rw [hp] at hw
  obtain ⟨i, -, hi⟩ := List.mem_filterMap.mp hw
  have hm : w ∈ big := by first | exact List.mem_of_getElem? hi | exact List.getElem?_mem hi
  exact ⟨hm, good_of_word h1⟩
theorem goodIn_app {big a b : List Cond} (ha : GoodIn big a) (hb : GoodIn big b) : GoodIn big (a ++ b) := fun w h => (List.mem_append.mp h).elim (ha w) (hb w)
theorem goodIn_ca {big a b : List Cond} {c : Cond} (ha : GoodIn big (c :: a)) (hb : GoodIn big b) : GoodIn big (c :: (a ++ b)) := fun w h => (List.mem_cons.mp h).elim (fun e => ha w (List.mem_cons.mpr (Or.inl e))) (fun h => (List.mem_append.mp h).elim (fun h => ha w (List.mem_cons.mpr (Or.inr h))) (hb w))
theorem goodIn_sub {big ws : List Cond} (hm : ∀ w ∈ ws, w ∈ big) (h : ws.all goodWord = true) : GoodIn big ws := fun w hw => ⟨hm w hw, good_of_word (List.all_eq_true.mp h w hw)⟩
def RX0 : String := "StylePapers$Paper"
def TX0 : u_T := fun k => match k with
  | 0 => ("StylePapers$Paper", "columns", "I", false)
  | 1 => ("StylePapers$Paper", "depth", "I", false)
  | 2 => ("StylePapers$Paper", "rule", "I", false)
  | 3 => ("StylePapers$Paper", "room", "[I", true)
  | 4 => ("StylePapers$Paper", "layerOf", "[I", true)
  | 5 => ("StylePapers$Paper", "columnOf", "[I", true)
  | 6 => ("StylePapers$Paper", "contests", "I", false)
  | 7 => ("StylePapers$Paper", "sheets", "I", false)
  | 8 => ("StylePapers$Paper", "last", "I", false)
  | _ => ("StylePapers$Paper", "bare", "Z", false)
def tyX0 : Nat → FieldType := fun k => match k with
  | 0 => .int
  | 1 => .int
  | 2 => .int
  | 3 => .array .int
  | 4 => .array .int
  | 5 => .array .int
  | 6 => .int
  | 7 => .int
  | 8 => .int
  | _ => .boolean
abbrev wsX00 : List Cond := u_ws RX0 TX0 10
theorem nmX0 : ∀ a, a < 10 → ∀ b, b < 10 → a ≠ b → (TX0 a).2.1 ≠ (TX0 b).2.1 := by decide +kernel
theorem tyX0_ok : ∀ k, k < 10 → parseFieldDescriptor (TX0 k).2.2.1 = some (tyX0 k) := by decide +kernel
abbrev cX0_init : ByteArray := prog_2_method_1_code
def yX0_init : MethodName := ⟨RX0, "<init>", "()V"⟩
abbrev cX0_setColumns : ByteArray := prog_2_method_2_code
def yX0_setColumns : MethodName := ⟨RX0, "setColumns", "(I)I"⟩
abbrev cX0_setDepth : ByteArray := prog_2_method_3_code
def yX0_setDepth : MethodName := ⟨RX0, "setDepth", "(I)I"⟩
abbrev cX0_setRule : ByteArray := prog_2_method_4_code
def yX0_setRule : MethodName := ⟨RX0, "setRule", "(I)I"⟩
abbrev cX0_layContests : ByteArray := prog_2_method_5_code
def yX0_layContests : MethodName := ⟨RX0, "layContests", "(LStylePapers$Town;II)V"⟩
abbrev cX0_layOne : ByteArray := prog_2_method_6_code
def yX0_layOne : MethodName := ⟨RX0, "layOne", "(II)V"⟩
abbrev cX0_beginSheet : ByteArray := prog_2_method_7_code
def yX0_beginSheet : MethodName := ⟨RX0, "beginSheet", "()V"⟩
abbrev cX0_columnFor : ByteArray := prog_2_method_8_code
def yX0_columnFor : MethodName := ⟨RX0, "columnFor", "(II)I"⟩
abbrev cX0_nextColumn : ByteArray := prog_2_method_9_code
def yX0_nextColumn : MethodName := ⟨RX0, "nextColumn", "(I)I"⟩
abbrev cX0_firstColumn : ByteArray := prog_2_method_10_code
def yX0_firstColumn : MethodName := ⟨RX0, "firstColumn", "(I)I"⟩
abbrev cX0_tightColumn : ByteArray := prog_2_method_11_code
def yX0_tightColumn : MethodName := ⟨RX0, "tightColumn", "(I)I"⟩
abbrev cX0_looseColumn : ByteArray := prog_2_method_12_code
def yX0_looseColumn : MethodName := ⟨RX0, "looseColumn", "(I)I"⟩
abbrev cX0_roomLeft : ByteArray := prog_2_method_13_code
def yX0_roomLeft : MethodName := ⟨RX0, "roomLeft", "()I"⟩
def RX1 : String := "StylePapers$Past"
def TX1 : u_T := fun k => match k with
  | 0 => ("StylePapers$Past", "kept", "[LStylePapers$Town;", true)
  | 1 => ("StylePapers$Past", "next", "I", false)
  | _ => ("StylePapers$Past", "count", "I", false)
def tyX1 : Nat → FieldType := fun k => match k with
  | 0 => .array (.object "StylePapers$Town")
  | 1 => .int
  | _ => .int
abbrev wsX10 : List Cond := u_ws RX1 TX1 3
theorem nmX1 : ∀ a, a < 3 → ∀ b, b < 3 → a ≠ b → (TX1 a).2.1 ≠ (TX1 b).2.1 := by decide +kernel
theorem tyX1_ok : ∀ k, k < 3 → parseFieldDescriptor (TX1 k).2.2.1 = some (tyX1 k) := by decide +kernel
abbrev cX1_init : ByteArray := prog_3_method_1_code
def yX1_init : MethodName := ⟨RX1, "<init>", "()V"⟩
abbrev cX1_keep : ByteArray := prog_3_method_2_code
def yX1_keep : MethodName := ⟨RX1, "keep", "(LStylePapers$Town;)LStylePapers$Town;"⟩
abbrev cX1_takeBack : ByteArray := prog_3_method_3_code
def yX1_takeBack : MethodName := ⟨RX1, "takeBack", "(LStylePapers$Town;)I"⟩
def RX2 : String := "StylePapers$Script"
def TX2 : u_T := fun k => match k with
  | 0 => ("StylePapers$Script", "bytes", "[B", true)
  | 1 => ("StylePapers$Script", "length", "I", false)
  | 2 => ("StylePapers$Script", "orders", "[I", true)
  | 3 => ("StylePapers$Script", "count", "I", false)
  | 4 => ("StylePapers$Script", "kind", "I", false)
  | 5 => ("StylePapers$Script", "start", "I", false)
  | _ => ("StylePapers$Script", "behind", "I", false)
def tyX2 : Nat → FieldType := fun k => match k with
  | 0 => .array .byte
  | 1 => .int
  | 2 => .array .int
  | 3 => .int
  | 4 => .int
  | 5 => .int
  | _ => .int
abbrev wsX20 : List Cond := u_ws RX2 TX2 7
theorem nmX2 : ∀ a, a < 7 → ∀ b, b < 7 → a ≠ b → (TX2 a).2.1 ≠ (TX2 b).2.1 := by decide +kernel
theorem tyX2_ok : ∀ k, k < 7 → parseFieldDescriptor (TX2 k).2.2.1 = some (tyX2 k) := by decide +kernel
abbrev cX2_init : ByteArray := prog_4_method_1_code
def yX2_init : MethodName := ⟨RX2, "<init>", "()V"⟩
abbrev cX2_isFull : ByteArray := prog_4_method_2_code
def yX2_isFull : MethodName := ⟨RX2, "isFull", "()Z"⟩
abbrev cX2_addByte : ByteArray := prog_4_method_3_code
def yX2_addByte : MethodName := ⟨RX2, "addByte", "(I)I"⟩
abbrev cX2_makeEmpty : ByteArray := prog_4_method_4_code
def yX2_makeEmpty : MethodName := ⟨RX2, "makeEmpty", "()I"⟩
abbrev cX2_readOrders : ByteArray := prog_4_method_5_code
def yX2_readOrders : MethodName := ⟨RX2, "readOrders", "()I"⟩
abbrev cX2_readOrder : ByteArray := prog_4_method_6_code
def yX2_readOrder : MethodName := ⟨RX2, "readOrder", "()I"⟩
abbrev cX2_isAsTold : ByteArray := prog_4_method_7_code
def yX2_isAsTold : MethodName := ⟨RX2, "isAsTold", "(II)Z"⟩
abbrev cX2_readPiece : ByteArray := prog_4_method_8_code
def yX2_readPiece : MethodName := ⟨RX2, "readPiece", "()V"⟩
abbrev cX2_isLetter : ByteArray := prog_4_method_9_code
def yX2_isLetter : MethodName := ⟨RX2, "isLetter", "(I)Z"⟩
abbrev cX2_isFigure : ByteArray := prog_4_method_10_code
def yX2_isFigure : MethodName := ⟨RX2, "isFigure", "(I)Z"⟩
abbrev cX2_orderHere : ByteArray := prog_4_method_11_code
def yX2_orderHere : MethodName := ⟨RX2, "orderHere", "()I"⟩
abbrev cX2_wordOf : ByteArray := prog_4_method_12_code
def yX2_wordOf : MethodName := ⟨RX2, "wordOf", "(I)Ljava/lang/String;"⟩
abbrev cX2_isHere : ByteArray := prog_4_method_13_code
def yX2_isHere : MethodName := ⟨RX2, "isHere", "(Ljava/lang/String;)Z"⟩
abbrev cX2_numberHere : ByteArray := prog_4_method_14_code
def yX2_numberHere : MethodName := ⟨RX2, "numberHere", "()I"⟩
abbrev cX2_carryOut : ByteArray := prog_4_method_15_code
def yX2_carryOut : MethodName := ⟨RX2, "carryOut", "(ILStylePapers$Town;)V"⟩
def RX3 : String := "StylePapers$StyleMap"
def TX3 : u_T := fun k => match k with
  | 0 => ("StylePapers$StyleMap", "keys", "[I", true)
  | 1 => ("StylePapers$StyleMap", "styleOf", "[I", true)
  | 2 => ("StylePapers$StyleMap", "leastOf", "[I", true)
  | 3 => ("StylePapers$StyleMap", "queue", "[I", true)
  | 4 => ("StylePapers$StyleMap", "seen", "[Z", true)
  | _ => ("StylePapers$StyleMap", "count", "I", false)
def tyX3 : Nat → FieldType := fun k => match k with
  | 0 => .array .int
  | 1 => .array .int
  | 2 => .array .int
  | 3 => .array .int
  | 4 => .array .boolean
  | _ => .int
abbrev wsX30 : List Cond := u_ws RX3 TX3 6
theorem nmX3 : ∀ a, a < 6 → ∀ b, b < 6 → a ≠ b → (TX3 a).2.1 ≠ (TX3 b).2.1 := by decide +kernel
theorem tyX3_ok : ∀ k, k < 6 → parseFieldDescriptor (TX3 k).2.2.1 = some (tyX3 k) := by decide +kernel
abbrev cX3_init : ByteArray := prog_5_method_1_code
def yX3_init : MethodName := ⟨RX3, "<init>", "()V"⟩
abbrev cX3_sortBlocks : ByteArray := prog_5_method_2_code
def yX3_sortBlocks : MethodName := ⟨RX3, "sortBlocks", "(LStylePapers$Town;I)V"⟩
abbrev cX3_keyOf : ByteArray := prog_5_method_3_code
def yX3_keyOf : MethodName := ⟨RX3, "keyOf", "(LStylePapers$Town;II)I"⟩
abbrev cX3_styleWithKey : ByteArray := prog_5_method_4_code
def yX3_styleWithKey : MethodName := ⟨RX3, "styleWithKey", "(I)I"⟩
abbrev cX3_blocksOf : ByteArray := prog_5_method_5_code
def yX3_blocksOf : MethodName := ⟨RX3, "blocksOf", "(I)I"⟩
abbrev cX3_votersOf : ByteArray := prog_5_method_6_code
def yX3_votersOf : MethodName := ⟨RX3, "votersOf", "(ILStylePapers$Town;)I"⟩
abbrev cX3_partsOf : ByteArray := prog_5_method_7_code
def yX3_partsOf : MethodName := ⟨RX3, "partsOf", "(I)I"⟩
abbrev cX3_visitPart : ByteArray := prog_5_method_8_code
def yX3_visitPart : MethodName := ⟨RX3, "visitPart", "(I)V"⟩
abbrev cX3_neighbour : ByteArray := prog_5_method_9_code
def yX3_neighbour : MethodName := ⟨RX3, "neighbour", "(II)I"⟩
abbrev cX3_unlikePairs : ByteArray := prog_5_method_10_code
def yX3_unlikePairs : MethodName := ⟨RX3, "unlikePairs", "()I"⟩
abbrev cX3_pairsOf : ByteArray := prog_5_method_11_code
def yX3_pairsOf : MethodName := ⟨RX3, "pairsOf", "(II)I"⟩
abbrev cX3_arePair : ByteArray := prog_5_method_12_code
def yX3_arePair : MethodName := ⟨RX3, "arePair", "(IIII)Z"⟩
abbrev cX3_fewestVoters : ByteArray := prog_5_method_13_code
def yX3_fewestVoters : MethodName := ⟨RX3, "fewestVoters", "(LStylePapers$Town;)I"⟩
abbrev cX3_mostParts : ByteArray := prog_5_method_14_code
def yX3_mostParts : MethodName := ⟨RX3, "mostParts", "()I"⟩
def RX4 : String := "StylePapers$Town"
def TX4 : u_T := fun k => match k with
  | 0 => ("StylePapers$Town", "people", "[I", true)
  | 1 => ("StylePapers$Town", "districts", "[I", true)
  | 2 => ("StylePapers$Town", "nameCounts", "[I", true)
  | _ => ("StylePapers$Town", "layersOn", "I", false)
def tyX4 : Nat → FieldType := fun k => match k with
  | 0 => .array .int
  | 1 => .array .int
  | 2 => .array .int
  | _ => .int
abbrev wsX40 : List Cond := u_ws RX4 TX4 4
theorem nmX4 : ∀ a, a < 4 → ∀ b, b < 4 → a ≠ b → (TX4 a).2.1 ≠ (TX4 b).2.1 := by decide +kernel
theorem tyX4_ok : ∀ k, k < 4 → parseFieldDescriptor (TX4 k).2.2.1 = some (tyX4 k) := by decide +kernel
abbrev cX4_init : ByteArray := prog_6_method_1_code
def yX4_init : MethodName := ⟨RX4, "<init>", "()V"⟩
abbrev cX4_copyFrom : ByteArray := prog_6_method_2_code
def yX4_copyFrom : MethodName := ⟨RX4, "copyFrom", "(LStylePapers$Town;)V"⟩
abbrev cX4_isOn : ByteArray := prog_6_method_3_code
def yX4_isOn : MethodName := ⟨RX4, "isOn", "(I)Z"⟩
abbrev cX4_districtOf : ByteArray := prog_6_method_4_code
def yX4_districtOf : MethodName := ⟨RX4, "districtOf", "(II)I"⟩
abbrev cX4_namesOf : ByteArray := prog_6_method_5_code
def yX4_namesOf : MethodName := ⟨RX4, "namesOf", "(II)I"⟩
abbrev cX4_heightAt : ByteArray := prog_6_method_6_code
def yX4_heightAt : MethodName := ⟨RX4, "heightAt", "(II)I"⟩
abbrev cX4_switchLayer : ByteArray := prog_6_method_7_code
def yX4_switchLayer : MethodName := ⟨RX4, "switchLayer", "(II)I"⟩
abbrev cX4_setNames : ByteArray := prog_6_method_8_code
def yX4_setNames : MethodName := ⟨RX4, "setNames", "(III)I"⟩
abbrev cX4_setVoters : ByteArray := prog_6_method_9_code
def yX4_setVoters : MethodName := ⟨RX4, "setVoters", "(II)I"⟩
abbrev cX4_setDistrict : ByteArray := prog_6_method_10_code
def yX4_setDistrict : MethodName := ⟨RX4, "setDistrict", "(III)I"⟩
abbrev cX4_putRectangle : ByteArray := prog_6_method_11_code
def yX4_putRectangle : MethodName := ⟨RX4, "putRectangle", "(IIII)I"⟩
abbrev cX4_drawLayer : ByteArray := prog_6_method_12_code
def yX4_drawLayer : MethodName := ⟨RX4, "drawLayer", "(III)I"⟩
abbrev cX4_followMap : ByteArray := prog_6_method_13_code
def yX4_followMap : MethodName := ⟨RX4, "followMap", "(LStylePapers$Town;III)I"⟩
abbrev cX4_followed : ByteArray := prog_6_method_14_code
def yX4_followed : MethodName := ⟨RX4, "followed", "(LStylePapers$Town;IIII)I"⟩
abbrev cX4_leaderIn : ByteArray := prog_6_method_15_code
def yX4_leaderIn : MethodName := ⟨RX4, "leaderIn", "(II)I"⟩
abbrev cX4_nextLeader : ByteArray := prog_6_method_16_code
def yX4_nextLeader : MethodName := ⟨RX4, "nextLeader", "(III)I"⟩
abbrev cX4_ledBy : ByteArray := prog_6_method_17_code
def yX4_ledBy : MethodName := ⟨RX4, "ledBy", "(IIIZ)I"⟩
def RX5 : String := "StylePapers"
def TX5 : u_T := fun k => match k with
  | 0 => ("StylePapers", "town", "LStylePapers$Town;", true)
  | 1 => ("StylePapers", "past", "LStylePapers$Past;", true)
  | 2 => ("StylePapers", "map", "LStylePapers$StyleMap;", true)
  | 3 => ("StylePapers", "sheet", "LStylePapers$Paper;", true)
  | 4 => ("StylePapers", "script", "LStylePapers$Script;", true)
  | 5 => ("StylePapers", "timesBad", "I", false)
  | 6 => ("StylePapers", "timesNo", "I", false)
  | _ => ("StylePapers", "timesFull", "I", false)
def tyX5 : Nat → FieldType := fun k => match k with
  | 0 => .object "StylePapers$Town"
  | 1 => .object "StylePapers$Past"
  | 2 => .object "StylePapers$StyleMap"
  | 3 => .object "StylePapers$Paper"
  | 4 => .object "StylePapers$Script"
  | 5 => .int
  | 6 => .int
  | _ => .int
abbrev wsX50 : List Cond := u_ws RX5 TX5 8
theorem nmX5 : ∀ a, a < 8 → ∀ b, b < 8 → a ≠ b → (TX5 a).2.1 ≠ (TX5 b).2.1 := by decide +kernel
theorem tyX5_ok : ∀ k, k < 8 → parseFieldDescriptor (TX5 k).2.2.1 = some (tyX5 k) := by decide +kernel
abbrev cX5_init : ByteArray := prog_1_method_1_code
def yX5_init : MethodName := ⟨RX5, "<init>", "()V"⟩
abbrev cX5_on : ByteArray := prog_1_method_2_code
def yX5_on : MethodName := ⟨RX5, "on", "(II)I"⟩
abbrev cX5_puts : ByteArray := prog_1_method_3_code
def yX5_puts : MethodName := ⟨RX5, "puts", "(IIII)I"⟩
abbrev cX5_names : ByteArray := prog_1_method_4_code
def yX5_names : MethodName := ⟨RX5, "names", "(III)I"⟩
abbrev cX5_voters : ByteArray := prog_1_method_5_code
def yX5_voters : MethodName := ⟨RX5, "voters", "(II)I"⟩
abbrev cX5_draw : ByteArray := prog_1_method_6_code
def yX5_draw : MethodName := ⟨RX5, "draw", "(III)I"⟩
abbrev cX5_follows : ByteArray := prog_1_method_7_code
def yX5_follows : MethodName := ⟨RX5, "follows", "(III)I"⟩
abbrev cX5_undo : ByteArray := prog_1_method_8_code
def yX5_undo : MethodName := ⟨RX5, "undo", "()I"⟩
abbrev cX5_of : ByteArray := prog_1_method_9_code
def yX5_of : MethodName := ⟨RX5, "of", "(II)I"⟩
abbrev cX5_type : ByteArray := prog_1_method_10_code
def yX5_type : MethodName := ⟨RX5, "type", "(I)I"⟩
abbrev cX5_clear : ByteArray := prog_1_method_11_code
def yX5_clear : MethodName := ⟨RX5, "clear", "()I"⟩
abbrev cX5_does : ByteArray := prog_1_method_12_code
def yX5_does : MethodName := ⟨RX5, "does", "()I"⟩
abbrev cX5_styles : ByteArray := prog_1_method_13_code
def yX5_styles : MethodName := ⟨RX5, "styles", "()I"⟩
abbrev cX5_style : ByteArray := prog_1_method_14_code
def yX5_style : MethodName := ⟨RX5, "style", "(II)I"⟩
abbrev cX5_without : ByteArray := prog_1_method_15_code
def yX5_without : MethodName := ⟨RX5, "without", "(I)I"⟩
abbrev cX5_border : ByteArray := prog_1_method_16_code
def yX5_border : MethodName := ⟨RX5, "border", "()I"⟩
abbrev cX5_beside : ByteArray := prog_1_method_17_code
def yX5_beside : MethodName := ⟨RX5, "beside", "(II)I"⟩
abbrev cX5_unlike : ByteArray := prog_1_method_18_code
def yX5_unlike : MethodName := ⟨RX5, "unlike", "(II)I"⟩
abbrev cX5_odd : ByteArray := prog_1_method_19_code
def yX5_odd : MethodName := ⟨RX5, "odd", "(I)I"⟩
abbrev cX5_paper : ByteArray := prog_1_method_20_code
def yX5_paper : MethodName := ⟨RX5, "paper", "(II)I"⟩
abbrev cX5_faces : ByteArray := prog_1_method_21_code
def yX5_faces : MethodName := ⟨RX5, "faces", "(I)I"⟩
abbrev cX5_contest : ByteArray := prog_1_method_22_code
def yX5_contest : MethodName := ⟨RX5, "contest", "(III)I"⟩
abbrev cX5_room : ByteArray := prog_1_method_23_code
def yX5_room : MethodName := ⟨RX5, "room", "(II)I"⟩
abbrev cX5_rule : ByteArray := prog_1_method_24_code
def yX5_rule : MethodName := ⟨RX5, "rule", "(I)I"⟩
abbrev cX5_leads : ByteArray := prog_1_method_25_code
def yX5_leads : MethodName := ⟨RX5, "leads", "(II)I"⟩
abbrev cX5_lead : ByteArray := prog_1_method_26_code
def yX5_lead : MethodName := ⟨RX5, "lead", "(III)I"⟩
abbrev cX5_fair : ByteArray := prog_1_method_27_code
def yX5_fair : MethodName := ⟨RX5, "fair", "(III)I"⟩
abbrev cX5_place : ByteArray := prog_1_method_28_code
def yX5_place : MethodName := ⟨RX5, "place", "(III)I"⟩
abbrev cX5_told : ByteArray := prog_1_method_29_code
def yX5_told : MethodName := ⟨RX5, "told", "(I)I"⟩
abbrev cX5_digest : ByteArray := prog_1_method_30_code
def yX5_digest : MethodName := ⟨RX5, "digest", "()J"⟩
abbrev cX5_counter : ByteArray := prog_1_method_31_code
def yX5_counter : MethodName := ⟨RX5, "counter", "(I)I"⟩
abbrev cX5_refuseBad : ByteArray := prog_1_method_32_code
def yX5_refuseBad : MethodName := ⟨RX5, "refuseBad", "()I"⟩
abbrev cX5_refuseNo : ByteArray := prog_1_method_33_code
def yX5_refuseNo : MethodName := ⟨RX5, "refuseNo", "()I"⟩
abbrev cX5_refuseFull : ByteArray := prog_1_method_34_code
def yX5_refuseFull : MethodName := ⟨RX5, "refuseFull", "()I"⟩
abbrev cX5_within : ByteArray := prog_1_method_35_code
def yX5_within : MethodName := ⟨RX5, "within", "(III)Z"⟩
abbrev cX5_isLayer : ByteArray := prog_1_method_36_code
def yX5_isLayer : MethodName := ⟨RX5, "isLayer", "(I)Z"⟩
abbrev cX5_isDistrict : ByteArray := prog_1_method_37_code
def yX5_isDistrict : MethodName := ⟨RX5, "isDistrict", "(I)Z"⟩
abbrev cX5_isBlock : ByteArray := prog_1_method_38_code
def yX5_isBlock : MethodName := ⟨RX5, "isBlock", "(I)Z"⟩
abbrev cX5_isName : ByteArray := prog_1_method_39_code
def yX5_isName : MethodName := ⟨RX5, "isName", "(I)Z"⟩
abbrev cX5_isRectangle : ByteArray := prog_1_method_40_code
def yX5_isRectangle : MethodName := ⟨RX5, "isRectangle", "(II)Z"⟩
abbrev cX5_isStyle : ByteArray := prog_1_method_41_code
def yX5_isStyle : MethodName := ⟨RX5, "isStyle", "(I)Z"⟩
abbrev cX5_sortStyles : ByteArray := prog_1_method_42_code
def yX5_sortStyles : MethodName := ⟨RX5, "sortStyles", "()V"⟩
abbrev cX5_sheetsOf : ByteArray := prog_1_method_43_code
def yX5_sheetsOf : MethodName := ⟨RX5, "sheetsOf", "(II)I"⟩
abbrev cX5_sheetsOfAll : ByteArray := prog_1_method_44_code
def yX5_sheetsOfAll : MethodName := ⟨RX5, "sheetsOfAll", "(I)I"⟩
abbrev cX5_hasBareStyle : ByteArray := prog_1_method_45_code
def yX5_hasBareStyle : MethodName := ⟨RX5, "hasBareStyle", "()Z"⟩
def RX6 : String := "StylePapersModel"
def TX6 : u_T := fun k => match k with
  | 0 => ("StylePapersModel", "s", "[I", true)
  | 1 => ("StylePapersModel", "past", "[I", true)
  | 2 => ("StylePapersModel", "known", "I", false)
  | 3 => ("StylePapersModel", "paper", "[I", true)
  | 4 => ("StylePapersModel", "refused", "[I", true)
  | 5 => ("StylePapersModel", "text", "[I", true)
  | 6 => ("StylePapersModel", "typed", "I", false)
  | 7 => ("StylePapersModel", "at", "I", false)
  | 8 => ("StylePapersModel", "numbers", "[I", true)
  | 9 => ("StylePapersModel", "words", "[C", true)
  | 10 => ("StylePapersModel", "styleOf", "[I", true)
  | 11 => ("StylePapersModel", "firsts", "[I", true)
  | 12 => ("StylePapersModel", "styles", "I", false)
  | 13 => ("StylePapersModel", "seen", "[I", true)
  | 14 => ("StylePapersModel", "moved", "[I", true)
  | 15 => ("StylePapersModel", "layers", "[I", true)
  | 16 => ("StylePapersModel", "lies", "[I", true)
  | 17 => ("StylePapersModel", "contests", "I", false)
  | 18 => ("StylePapersModel", "rooms", "[I", true)
  | _ => ("StylePapersModel", "faces", "I", false)
def tyX6 : Nat → FieldType := fun k => match k with
  | 0 => .array .int
  | 1 => .array .int
  | 2 => .int
  | 3 => .array .int
  | 4 => .array .int
  | 5 => .array .int
  | 6 => .int
  | 7 => .int
  | 8 => .array .int
  | 9 => .array .char
  | 10 => .array .int
  | 11 => .array .int
  | 12 => .int
  | 13 => .array .int
  | 14 => .array .int
  | 15 => .array .int
  | 16 => .array .int
  | 17 => .int
  | 18 => .array .int
  | _ => .int
abbrev wsX60 : List Cond := u_ws RX6 TX6 20
theorem nmX6 : ∀ a, a < 20 → ∀ b, b < 20 → a ≠ b → (TX6 a).2.1 ≠ (TX6 b).2.1 := by decide +kernel
theorem tyX6_ok : ∀ k, k < 20 → parseFieldDescriptor (TX6 k).2.2.1 = some (tyX6 k) := by decide +kernel
abbrev cX6_init : ByteArray := prog_8_method_1_code
def yX6_init : MethodName := ⟨RX6, "<init>", "()V"⟩
abbrev cX6_in : ByteArray := prog_8_method_3_code
def yX6_in : MethodName := ⟨RX6, "in", "(III)Z"⟩
abbrev cX6_refuses : ByteArray := prog_8_method_4_code
def yX6_refuses : MethodName := ⟨RX6, "refuses", "(I)I"⟩
abbrev cX6_isBlock : ByteArray := prog_8_method_5_code
def yX6_isBlock : MethodName := ⟨RX6, "isBlock", "(I)Z"⟩
abbrev cX6_isLayer : ByteArray := prog_8_method_6_code
def yX6_isLayer : MethodName := ⟨RX6, "isLayer", "(I)Z"⟩
abbrev cX6_isDistrict : ByteArray := prog_8_method_7_code
def yX6_isDistrict : MethodName := ⟨RX6, "isDistrict", "(I)Z"⟩
abbrev cX6_district : ByteArray := prog_8_method_8_code
def yX6_district : MethodName := ⟨RX6, "district", "(II)I"⟩
abbrev cX6_namesOf : ByteArray := prog_8_method_9_code
def yX6_namesOf : MethodName := ⟨RX6, "namesOf", "(II)I"⟩
abbrev cX6_isOn : ByteArray := prog_8_method_10_code
def yX6_isOn : MethodName := ⟨RX6, "isOn", "(I)Z"⟩
abbrev cX6_keeps : ByteArray := prog_8_method_11_code
def yX6_keeps : MethodName := ⟨RX6, "keeps", "()V"⟩
abbrev cX6_turns : ByteArray := prog_8_method_12_code
def yX6_turns : MethodName := ⟨RX6, "turns", "(II)I"⟩
abbrev cX6_on : ByteArray := prog_8_method_13_code
def yX6_on : MethodName := ⟨RX6, "on", "(II)I"⟩
abbrev cX6_isRectangle : ByteArray := prog_8_method_14_code
def yX6_isRectangle : MethodName := ⟨RX6, "isRectangle", "(II)Z"⟩
abbrev cX6_lays : ByteArray := prog_8_method_15_code
def yX6_lays : MethodName := ⟨RX6, "lays", "(IIII)I"⟩
abbrev cX6_puts : ByteArray := prog_8_method_16_code
def yX6_puts : MethodName := ⟨RX6, "puts", "(IIII)I"⟩
abbrev cX6_becomes : ByteArray := prog_8_method_17_code
def yX6_becomes : MethodName := ⟨RX6, "becomes", "(II)I"⟩
abbrev cX6_names : ByteArray := prog_8_method_18_code
def yX6_names : MethodName := ⟨RX6, "names", "(III)I"⟩
abbrev cX6_voters : ByteArray := prog_8_method_19_code
def yX6_voters : MethodName := ⟨RX6, "voters", "(II)I"⟩
abbrev cX6_draw : ByteArray := prog_8_method_20_code
def yX6_draw : MethodName := ⟨RX6, "draw", "(III)I"⟩
abbrev cX6_follows : ByteArray := prog_8_method_21_code
def yX6_follows : MethodName := ⟨RX6, "follows", "(III)I"⟩
abbrev cX6_undo : ByteArray := prog_8_method_22_code
def yX6_undo : MethodName := ⟨RX6, "undo", "()I"⟩
abbrev cX6_of : ByteArray := prog_8_method_23_code
def yX6_of : MethodName := ⟨RX6, "of", "(II)I"⟩
abbrev cX6_type : ByteArray := prog_8_method_24_code
def yX6_type : MethodName := ⟨RX6, "type", "(I)I"⟩
abbrev cX6_clear : ByteArray := prog_8_method_25_code
def yX6_clear : MethodName := ⟨RX6, "clear", "()I"⟩
abbrev cX6_byteAt : ByteArray := prog_8_method_26_code
def yX6_byteAt : MethodName := ⟨RX6, "byteAt", "(I)I"⟩
abbrev cX6_skips : ByteArray := prog_8_method_27_code
def yX6_skips : MethodName := ⟨RX6, "skips", "()V"⟩
abbrev cX6_isNumber : ByteArray := prog_8_method_28_code
def yX6_isNumber : MethodName := ⟨RX6, "isNumber", "(III)Z"⟩
abbrev cX6_isWord : ByteArray := prog_8_method_29_code
def yX6_isWord : MethodName := ⟨RX6, "isWord", "(II)Z"⟩
abbrev cX6_word : ByteArray := prog_8_method_30_code
def yX6_word : MethodName := ⟨RX6, "word", "()I"⟩
abbrev cX6_isEnd : ByteArray := prog_8_method_31_code
def yX6_isEnd : MethodName := ⟨RX6, "isEnd", "()Z"⟩
abbrev cX6_order : ByteArray := prog_8_method_32_code
def yX6_order : MethodName := ⟨RX6, "order", "()I"⟩
abbrev cX6_done : ByteArray := prog_8_method_33_code
def yX6_done : MethodName := ⟨RX6, "done", "(I)V"⟩
abbrev cX6_goesThrough : ByteArray := prog_8_method_34_code
def yX6_goesThrough : MethodName := ⟨RX6, "goesThrough", "(Z)I"⟩
abbrev cX6_does : ByteArray := prog_8_method_35_code
def yX6_does : MethodName := ⟨RX6, "does", "()I"⟩
abbrev cX6_isLike : ByteArray := prog_8_method_36_code
def yX6_isLike : MethodName := ⟨RX6, "isLike", "(II)Z"⟩
abbrev cX6_finds : ByteArray := prog_8_method_37_code
def yX6_finds : MethodName := ⟨RX6, "finds", "()V"⟩
abbrev cX6_isStyle : ByteArray := prog_8_method_38_code
def yX6_isStyle : MethodName := ⟨RX6, "isStyle", "(I)Z"⟩
abbrev cX6_styles : ByteArray := prog_8_method_39_code
def yX6_styles : MethodName := ⟨RX6, "styles", "()I"⟩
abbrev cX6_votersOf : ByteArray := prog_8_method_40_code
def yX6_votersOf : MethodName := ⟨RX6, "votersOf", "(I)I"⟩
abbrev cX6_blocksOf : ByteArray := prog_8_method_41_code
def yX6_blocksOf : MethodName := ⟨RX6, "blocksOf", "(I)I"⟩
abbrev cX6_isBeside : ByteArray := prog_8_method_42_code
def yX6_isBeside : MethodName := ⟨RX6, "isBeside", "(II)Z"⟩
abbrev cX6_partsOf : ByteArray := prog_8_method_43_code
def yX6_partsOf : MethodName := ⟨RX6, "partsOf", "(I)I"⟩
abbrev cX6_contestsOn : ByteArray := prog_8_method_44_code
def yX6_contestsOn : MethodName := ⟨RX6, "contestsOn", "()I"⟩
abbrev cX6_style : ByteArray := prog_8_method_45_code
def yX6_style : MethodName := ⟨RX6, "style", "(II)I"⟩
abbrev cX6_without : ByteArray := prog_8_method_46_code
def yX6_without : MethodName := ⟨RX6, "without", "(I)I"⟩
abbrev cX6_borderOf : ByteArray := prog_8_method_47_code
def yX6_borderOf : MethodName := ⟨RX6, "borderOf", "()I"⟩
abbrev cX6_border : ByteArray := prog_8_method_48_code
def yX6_border : MethodName := ⟨RX6, "border", "()I"⟩
abbrev cX6_beside : ByteArray := prog_8_method_49_code
def yX6_beside : MethodName := ⟨RX6, "beside", "(II)I"⟩
abbrev cX6_unlike : ByteArray := prog_8_method_50_code
def yX6_unlike : MethodName := ⟨RX6, "unlike", "(II)I"⟩
abbrev cX6_odd : ByteArray := prog_8_method_51_code
def yX6_odd : MethodName := ⟨RX6, "odd", "(I)I"⟩
abbrev cX6_paper : ByteArray := prog_8_method_52_code
def yX6_paper : MethodName := ⟨RX6, "paper", "(II)I"⟩
abbrev cX6_heightOf : ByteArray := prog_8_method_53_code
def yX6_heightOf : MethodName := ⟨RX6, "heightOf", "(II)I"⟩
abbrev cX6_begins : ByteArray := prog_8_method_54_code
def yX6_begins : MethodName := ⟨RX6, "begins", "()V"⟩
abbrev cX6_columnBy : ByteArray := prog_8_method_55_code
def yX6_columnBy : MethodName := ⟨RX6, "columnBy", "(III)I"⟩
abbrev cX6_prints : ByteArray := prog_8_method_56_code
def yX6_prints : MethodName := ⟨RX6, "prints", "(II)I"⟩
abbrev cX6_faces : ByteArray := prog_8_method_57_code
def yX6_faces : MethodName := ⟨RX6, "faces", "(I)I"⟩
abbrev cX6_contest : ByteArray := prog_8_method_58_code
def yX6_contest : MethodName := ⟨RX6, "contest", "(III)I"⟩
abbrev cX6_facesBy : ByteArray := prog_8_method_59_code
def yX6_facesBy : MethodName := ⟨RX6, "facesBy", "(IZ)I"⟩
abbrev cX6_room : ByteArray := prog_8_method_60_code
def yX6_room : MethodName := ⟨RX6, "room", "(II)I"⟩
abbrev cX6_rule : ByteArray := prog_8_method_61_code
def yX6_rule : MethodName := ⟨RX6, "rule", "(I)I"⟩
abbrev cX6_rank : ByteArray := prog_8_method_62_code
def yX6_rank : MethodName := ⟨RX6, "rank", "(II)I"⟩
abbrev cX6_leader : ByteArray := prog_8_method_63_code
def yX6_leader : MethodName := ⟨RX6, "leader", "(II)I"⟩
abbrev cX6_leads : ByteArray := prog_8_method_64_code
def yX6_leads : MethodName := ⟨RX6, "leads", "(II)I"⟩
abbrev cX6_leadOf : ByteArray := prog_8_method_65_code
def yX6_leadOf : MethodName := ⟨RX6, "leadOf", "(IIIZ)I"⟩
abbrev cX6_lead : ByteArray := prog_8_method_66_code
def yX6_lead : MethodName := ⟨RX6, "lead", "(III)I"⟩
abbrev cX6_fair : ByteArray := prog_8_method_67_code
def yX6_fair : MethodName := ⟨RX6, "fair", "(III)I"⟩
abbrev cX6_place : ByteArray := prog_8_method_68_code
def yX6_place : MethodName := ⟨RX6, "place", "(III)I"⟩
abbrev cX6_toldOf : ByteArray := prog_8_method_69_code
def yX6_toldOf : MethodName := ⟨RX6, "toldOf", "(I)I"⟩
abbrev cX6_told : ByteArray := prog_8_method_70_code
def yX6_told : MethodName := ⟨RX6, "told", "(I)I"⟩
abbrev cX6_digest : ByteArray := prog_8_method_71_code
def yX6_digest : MethodName := ⟨RX6, "digest", "()J"⟩
def RJ6 : String := "java/lang/Integer"
def TJ6 : u_T := fun k => match k with
  | _ => ("", "", "", false)
def tyJ6 : Nat → FieldType := fun k => match k with
  | _ => .int
theorem nmJ6 : ∀ a, a < 0 → ∀ b, b < 0 → a ≠ b → (TJ6 a).2.1 ≠ (TJ6 b).2.1 := by decide +kernel
theorem tyJ6_ok : ∀ k, k < 0 → parseFieldDescriptor (TJ6 k).2.2.1 = some (tyJ6 k) := by decide +kernel
abbrev cJ6_bitCount_0f7a4 : ByteArray := prog_9_method_49_code
def yJ6_bitCount_0f7a4 : MethodName := ⟨RJ6, "bitCount", "(I)I"⟩
def RJ9 : String := "java/lang/Math"
def TJ9 : u_T := fun k => match k with
  | _ => ("", "", "", false)
def tyJ9 : Nat → FieldType := fun k => match k with
  | _ => .int
theorem nmJ9 : ∀ a, a < 0 → ∀ b, b < 0 → a ≠ b → (TJ9 a).2.1 ≠ (TJ9 b).2.1 := by decide +kernel
theorem tyJ9_ok : ∀ k, k < 0 → parseFieldDescriptor (TJ9 k).2.2.1 = some (tyJ9 k) := by decide +kernel
abbrev cJ9_max_7cf53 : ByteArray := prog_10_method_65_code
def yJ9_max_7cf53 : MethodName := ⟨RJ9, "max", "(II)I"⟩
abbrev cJ9_min_7cf53 : ByteArray := prog_10_method_69_code
def yJ9_min_7cf53 : MethodName := ⟨RJ9, "min", "(II)I"⟩
def RJ0 : String := "java/lang/String"
def TJ0 : u_T := fun k => match k with
  | _ => ("", "", "", false)
def tyJ0 : Nat → FieldType := fun k => match k with
  | _ => .int
theorem nmJ0 : ∀ a, a < 0 → ∀ b, b < 0 → a ≠ b → (TJ0 a).2.1 ≠ (TJ0 b).2.1 := by decide +kernel
theorem tyJ0_ok : ∀ k, k < 0 → parseFieldDescriptor (TJ0 k).2.2.1 = some (tyJ0 k) := by decide +kernel
abbrev cJ0_length_8abf5 : ByteArray := prog_11_method_54_code
def yJ0_length_8abf5 : MethodName := ⟨RJ0, "length", "()I"⟩
abbrev cJ0_charAt_5068e : ByteArray := prog_11_method_56_code
def yJ0_charAt_5068e : MethodName := ⟨RJ0, "charAt", "(I)C"⟩
abbrev cJ0_coder_7d493 : ByteArray := prog_11_method_152_code
def yJ0_coder_7d493 : MethodName := ⟨RJ0, "coder", "()B"⟩
abbrev cJ0_isLatin1_aae02 : ByteArray := prog_11_method_154_code
def yJ0_isLatin1_aae02 : MethodName := ⟨RJ0, "isLatin1", "()Z"⟩
abbrev cJ0_checkIndex_df160 : ByteArray := prog_11_method_155_code
def yJ0_checkIndex_df160 : MethodName := ⟨RJ0, "checkIndex", "(II)V"⟩
def RJ1 : String := "java/lang/StringLatin1"
def TJ1 : u_T := fun k => match k with
  | _ => ("", "", "", false)
def tyJ1 : Nat → FieldType := fun k => match k with
  | _ => .int
theorem nmJ1 : ∀ a, a < 0 → ∀ b, b < 0 → a ≠ b → (TJ1 a).2.1 ≠ (TJ1 b).2.1 := by decide +kernel
theorem tyJ1_ok : ∀ k, k < 0 → parseFieldDescriptor (TJ1 k).2.2.1 = some (tyJ1 k) := by decide +kernel
abbrev cJ1_charAt_3b067 : ByteArray := prog_12_method_2_code
def yJ1_charAt_3b067 : MethodName := ⟨RJ1, "charAt", "([BI)C"⟩
def RJ2 : String := "java/lang/StringUTF16"
def TJ2 : u_T := fun k => match k with
  | _ => ("", "", "", false)
def tyJ2 : Nat → FieldType := fun k => match k with
  | _ => .int
theorem nmJ2 : ∀ a, a < 0 → ∀ b, b < 0 → a ≠ b → (TJ2 a).2.1 ≠ (TJ2 b).2.1 := by decide +kernel
theorem tyJ2_ok : ∀ k, k < 0 → parseFieldDescriptor (TJ2 k).2.2.1 = some (tyJ2 k) := by decide +kernel
abbrev cJ2_getChar_3b067 : ByteArray := prog_13_method_5_code
def yJ2_getChar_3b067 : MethodName := ⟨RJ2, "getChar", "([BI)C"⟩
abbrev cJ2_length_9d52b : ByteArray := prog_13_method_6_code
def yJ2_length_9d52b : MethodName := ⟨RJ2, "length", "([B)I"⟩
abbrev cJ2_charAt_3b067 : ByteArray := prog_13_method_83_code
def yJ2_charAt_3b067 : MethodName := ⟨RJ2, "charAt", "([BI)C"⟩
abbrev cJ2_checkIndex_2214a : ByteArray := prog_13_method_91_code
def yJ2_checkIndex_2214a : MethodName := ⟨RJ2, "checkIndex", "(I[B)V"⟩
def RJ10 : String := "java/lang/System"
def TJ10 : u_T := fun k => match k with
  | _ => ("", "", "", false)
def tyJ10 : Nat → FieldType := fun k => match k with
  | _ => .int
theorem nmJ10 : ∀ a, a < 0 → ∀ b, b < 0 → a ≠ b → (TJ10 a).2.1 ≠ (TJ10 b).2.1 := by decide +kernel
theorem tyJ10_ok : ∀ k, k < 0 → parseFieldDescriptor (TJ10 k).2.2.1 = some (tyJ10 k) := by decide +kernel
def RJ3 : String := "jdk/internal/util/Preconditions"
def TJ3 : u_T := fun k => match k with
  | _ => ("", "", "", false)
def tyJ3 : Nat → FieldType := fun k => match k with
  | _ => .int
theorem nmJ3 : ∀ a, a < 0 → ∀ b, b < 0 → a ≠ b → (TJ3 a).2.1 ≠ (TJ3 b).2.1 := by decide +kernel
theorem tyJ3_ok : ∀ k, k < 0 → parseFieldDescriptor (TJ3 k).2.2.1 = some (tyJ3 k) := by decide +kernel
abbrev cJ3_checkIndex_8e157 : ByteArray := prog_15_method_11_code
def yJ3_checkIndex_8e157 : MethodName := ⟨RJ3, "checkIndex", "(IILjava/util/function/BiFunction;)I"⟩
def RL : String := "StylePapersLaw"
abbrev cL_law : ByteArray := code
def yL_law : MethodName := ⟨RL, "law", "([I)Z"⟩
end
section
theorem dX0_init_0 : decode cX0_init 0 = .ok (.aload_n 0, 1) := by decide +kernel
theorem dX0_init_1 : decode cX0_init 1 = .ok (.invokespecial 3, 3) := by decide +kernel
theorem dX0_init_4 : decode cX0_init 4 = .ok (.aload_n 0, 1) := by decide +kernel
theorem dX0_init_5 : decode cX0_init 5 = .ok (.iconst 2, 1) := by decide +kernel
theorem dX0_init_6 : decode cX0_init 6 = .ok (.putfield 9, 3) := by decide +kernel
theorem dX0_init_9 : decode cX0_init 9 = .ok (.aload_n 0, 1) := by decide +kernel
theorem dX0_init_10 : decode cX0_init 10 = .ok (.bipush 12, 2) := by decide +kernel
theorem dX0_init_12 : decode cX0_init 12 = .ok (.putfield 15, 3) := by decide +kernel
theorem dX0_init_15 : decode cX0_init 15 = .ok (.aload_n 0, 1) := by decide +kernel
theorem dX0_init_16 : decode cX0_init 16 = .ok (.iconst 0, 1) := by decide +kernel
theorem dX0_init_17 : decode cX0_init 17 = .ok (.putfield 18, 3) := by decide +kernel
theorem dX0_init_20 : decode cX0_init 20 = .ok (.aload_n 0, 1) := by decide +kernel
theorem dX0_init_21 : decode cX0_init 21 = .ok (.bipush 12, 2) := by decide +kernel
theorem dX0_init_23 : decode cX0_init 23 = .ok (.newarray .int, 2) := by decide +kernel
theorem dX0_init_25 : decode cX0_init 25 = .ok (.putfield 21, 3) := by decide +kernel
theorem dX0_init_28 : decode cX0_init 28 = .ok (.aload_n 0, 1) := by decide +kernel
theorem dX0_init_29 : decode cX0_init 29 = .ok (.iconst 4, 1) := by decide +kernel
theorem dX0_init_30 : decode cX0_init 30 = .ok (.newarray .int, 2) := by decide +kernel
theorem dX0_init_32 : decode cX0_init 32 = .ok (.putfield 25, 3) := by decide +kernel
theorem dX0_init_35 : decode cX0_init 35 = .ok (.aload_n 0, 1) := by decide +kernel
theorem dX0_init_36 : decode cX0_init 36 = .ok (.iconst 4, 1) := by decide +kernel
theorem dX0_init_37 : decode cX0_init 37 = .ok (.newarray .int, 2) := by decide +kernel
theorem dX0_init_39 : decode cX0_init 39 = .ok (.putfield 28, 3) := by decide +kernel
theorem dX0_init_42 : decode cX0_init 42 = .ok (.aload_n 0, 1) := by decide +kernel
theorem dX0_init_43 : decode cX0_init 43 = .ok (.iconst 0, 1) := by decide +kernel
theorem dX0_init_44 : decode cX0_init 44 = .ok (.putfield 31, 3) := by decide +kernel
theorem dX0_init_47 : decode cX0_init 47 = .ok (.aload_n 0, 1) := by decide +kernel
theorem dX0_init_48 : decode cX0_init 48 = .ok (.iconst 0, 1) := by decide +kernel
theorem dX0_init_49 : decode cX0_init 49 = .ok (.putfield 34, 3) := by decide +kernel
theorem dX0_init_52 : decode cX0_init 52 = .ok (.aload_n 0, 1) := by decide +kernel
theorem dX0_init_53 : decode cX0_init 53 = .ok (.iconst 0, 1) := by decide +kernel
theorem dX0_init_54 : decode cX0_init 54 = .ok (.putfield 37, 3) := by decide +kernel
theorem dX0_init_57 : decode cX0_init 57 = .ok (.aload_n 0, 1) := by decide +kernel
theorem dX0_init_58 : decode cX0_init 58 = .ok (.iconst 0, 1) := by decide +kernel
theorem dX0_init_59 : decode cX0_init 59 = .ok (.putfield 40, 3) := by decide +kernel
theorem dX0_init_62 : decode cX0_init 62 = .ok (.return_, 1) := by decide +kernel
theorem dX0_setColumns_0 : decode cX0_setColumns 0 = .ok (.aload_n 0, 1) := by decide +kernel
theorem dX0_setColumns_1 : decode cX0_setColumns 1 = .ok (.getfield 9, 3) := by decide +kernel
theorem dX0_setColumns_4 : decode cX0_setColumns 4 = .ok (.istore_n 2, 1) := by decide +kernel
theorem dX0_setColumns_5 : decode cX0_setColumns 5 = .ok (.aload_n 0, 1) := by decide +kernel
theorem dX0_setColumns_6 : decode cX0_setColumns 6 = .ok (.iload_n 1, 1) := by decide +kernel
theorem dX0_setColumns_7 : decode cX0_setColumns 7 = .ok (.putfield 9, 3) := by decide +kernel
theorem dX0_setColumns_10 : decode cX0_setColumns 10 = .ok (.iload_n 2, 1) := by decide +kernel
theorem dX0_setColumns_11 : decode cX0_setColumns 11 = .ok (.ireturn, 1) := by decide +kernel
theorem dX0_setDepth_0 : decode cX0_setDepth 0 = .ok (.aload_n 0, 1) := by decide +kernel
theorem dX0_setDepth_1 : decode cX0_setDepth 1 = .ok (.getfield 15, 3) := by decide +kernel
theorem dX0_setDepth_4 : decode cX0_setDepth 4 = .ok (.istore_n 2, 1) := by decide +kernel
theorem dX0_setDepth_5 : decode cX0_setDepth 5 = .ok (.aload_n 0, 1) := by decide +kernel
theorem dX0_setDepth_6 : decode cX0_setDepth 6 = .ok (.iload_n 1, 1) := by decide +kernel
theorem dX0_setDepth_7 : decode cX0_setDepth 7 = .ok (.putfield 15, 3) := by decide +kernel
theorem dX0_setDepth_10 : decode cX0_setDepth 10 = .ok (.iload_n 2, 1) := by decide +kernel
theorem dX0_setDepth_11 : decode cX0_setDepth 11 = .ok (.ireturn, 1) := by decide +kernel
theorem dX0_setRule_0 : decode cX0_setRule 0 = .ok (.aload_n 0, 1) := by decide +kernel
theorem dX0_setRule_1 : decode cX0_setRule 1 = .ok (.getfield 18, 3) := by decide +kernel
theorem dX0_setRule_4 : decode cX0_setRule 4 = .ok (.istore_n 2, 1) := by decide +kernel
theorem dX0_setRule_5 : decode cX0_setRule 5 = .ok (.aload_n 0, 1) := by decide +kernel
theorem dX0_setRule_6 : decode cX0_setRule 6 = .ok (.iload_n 1, 1) := by decide +kernel
theorem dX0_setRule_7 : decode cX0_setRule 7 = .ok (.putfield 18, 3) := by decide +kernel
theorem dX0_setRule_10 : decode cX0_setRule 10 = .ok (.iload_n 2, 1) := by decide +kernel
theorem dX0_setRule_11 : decode cX0_setRule 11 = .ok (.ireturn, 1) := by decide +kernel
theorem dX0_layContests_0 : decode cX0_layContests 0 = .ok (.aload_n 0, 1) := by decide +kernel
theorem dX0_layContests_1 : decode cX0_layContests 1 = .ok (.iconst 0, 1) := by decide +kernel
theorem dX0_layContests_2 : decode cX0_layContests 2 = .ok (.putfield 31, 3) := by decide +kernel
theorem dX0_layContests_5 : decode cX0_layContests 5 = .ok (.aload_n 0, 1) := by decide +kernel
theorem dX0_layContests_6 : decode cX0_layContests 6 = .ok (.iconst 0, 1) := by decide +kernel
theorem dX0_layContests_7 : decode cX0_layContests 7 = .ok (.putfield 34, 3) := by decide +kernel
theorem dX0_layContests_10 : decode cX0_layContests 10 = .ok (.aload_n 0, 1) := by decide +kernel
theorem dX0_layContests_11 : decode cX0_layContests 11 = .ok (.iconst 0, 1) := by decide +kernel
theorem dX0_layContests_12 : decode cX0_layContests 12 = .ok (.putfield 37, 3) := by decide +kernel
theorem dX0_layContests_15 : decode cX0_layContests 15 = .ok (.aload_n 0, 1) := by decide +kernel
theorem dX0_layContests_16 : decode cX0_layContests 16 = .ok (.iconst 0, 1) := by decide +kernel
theorem dX0_layContests_17 : decode cX0_layContests 17 = .ok (.putfield 40, 3) := by decide +kernel
theorem dX0_layContests_20 : decode cX0_layContests 20 = .ok (.aload_n 0, 1) := by decide +kernel
theorem dX0_layContests_21 : decode cX0_layContests 21 = .ok (.invokevirtual 44, 3) := by decide +kernel
theorem dX0_layContests_24 : decode cX0_layContests 24 = .ok (.iconst 0, 1) := by decide +kernel
theorem dX0_layContests_25 : decode cX0_layContests 25 = .ok (.istore 4, 2) := by decide +kernel
theorem dX0_layContests_27 : decode cX0_layContests 27 = .ok (.iload 4, 2) := by decide +kernel
theorem dX0_layContests_29 : decode cX0_layContests 29 = .ok (.iconst 4, 1) := by decide +kernel
theorem dX0_layContests_30 : decode cX0_layContests 30 = .ok (.if_icmp .ge 51, 3) := by decide +kernel
theorem dX0_layContests_33 : decode cX0_layContests 33 = .ok (.aload_n 1, 1) := by decide +kernel
theorem dX0_layContests_34 : decode cX0_layContests 34 = .ok (.iload 4, 2) := by decide +kernel
theorem dX0_layContests_36 : decode cX0_layContests 36 = .ok (.invokevirtual 47, 3) := by decide +kernel
theorem dX0_layContests_39 : decode cX0_layContests 39 = .ok (.ifCond .eq 36, 3) := by decide +kernel
theorem dX0_layContests_42 : decode cX0_layContests 42 = .ok (.aload_n 0, 1) := by decide +kernel
theorem dX0_layContests_43 : decode cX0_layContests 43 = .ok (.getfield 25, 3) := by decide +kernel
theorem dX0_layContests_46 : decode cX0_layContests 46 = .ok (.aload_n 0, 1) := by decide +kernel
theorem dX0_layContests_47 : decode cX0_layContests 47 = .ok (.getfield 31, 3) := by decide +kernel
theorem dX0_layContests_50 : decode cX0_layContests 50 = .ok (.iload 4, 2) := by decide +kernel
theorem dX0_layContests_52 : decode cX0_layContests 52 = .ok (.iastore, 1) := by decide +kernel
theorem dX0_layContests_53 : decode cX0_layContests 53 = .ok (.aload_n 0, 1) := by decide +kernel
theorem dX0_layContests_54 : decode cX0_layContests 54 = .ok (.aload_n 1, 1) := by decide +kernel
theorem dX0_layContests_55 : decode cX0_layContests 55 = .ok (.iload 4, 2) := by decide +kernel
theorem dX0_layContests_57 : decode cX0_layContests 57 = .ok (.iload_n 2, 1) := by decide +kernel
theorem dX0_layContests_58 : decode cX0_layContests 58 = .ok (.invokevirtual 53, 3) := by decide +kernel
theorem dX0_layContests_61 : decode cX0_layContests 61 = .ok (.iload_n 3, 1) := by decide +kernel
theorem dX0_layContests_62 : decode cX0_layContests 62 = .ok (.invokevirtual 57, 3) := by decide +kernel
theorem dX0_layContests_65 : decode cX0_layContests 65 = .ok (.aload_n 0, 1) := by decide +kernel
theorem dX0_layContests_66 : decode cX0_layContests 66 = .ok (.dup, 1) := by decide +kernel
theorem dX0_layContests_67 : decode cX0_layContests 67 = .ok (.getfield 31, 3) := by decide +kernel
theorem dX0_layContests_70 : decode cX0_layContests 70 = .ok (.iconst 1, 1) := by decide +kernel
theorem dX0_layContests_71 : decode cX0_layContests 71 = .ok (.iadd, 1) := by decide +kernel
theorem dX0_layContests_72 : decode cX0_layContests 72 = .ok (.putfield 31, 3) := by decide +kernel
theorem dX0_layContests_75 : decode cX0_layContests 75 = .ok (.iinc 4 1, 3) := by decide +kernel
theorem dX0_layContests_78 : decode cX0_layContests 78 = .ok (.goto (-51), 3) := by decide +kernel
theorem dX0_layContests_81 : decode cX0_layContests 81 = .ok (.return_, 1) := by decide +kernel
theorem dX0_layOne_0 : decode cX0_layOne 0 = .ok (.iload_n 1, 1) := by decide +kernel
theorem dX0_layOne_1 : decode cX0_layOne 1 = .ok (.aload_n 0, 1) := by decide +kernel
theorem dX0_layOne_2 : decode cX0_layOne 2 = .ok (.getfield 15, 3) := by decide +kernel
theorem dX0_layOne_5 : decode cX0_layOne 5 = .ok (.if_icmp .le 8, 3) := by decide +kernel
theorem dX0_layOne_8 : decode cX0_layOne 8 = .ok (.aload_n 0, 1) := by decide +kernel
theorem dX0_layOne_9 : decode cX0_layOne 9 = .ok (.iconst 1, 1) := by decide +kernel
theorem dX0_layOne_10 : decode cX0_layOne 10 = .ok (.putfield 40, 3) := by decide +kernel
theorem dX0_layOne_13 : decode cX0_layOne 13 = .ok (.aload_n 0, 1) := by decide +kernel
theorem dX0_layOne_14 : decode cX0_layOne 14 = .ok (.getfield 40, 3) := by decide +kernel
theorem dX0_layOne_17 : decode cX0_layOne 17 = .ok (.ifCond .eq 4, 3) := by decide +kernel
theorem dX0_layOne_20 : decode cX0_layOne 20 = .ok (.return_, 1) := by decide +kernel
theorem dX0_layOne_21 : decode cX0_layOne 21 = .ok (.aload_n 0, 1) := by decide +kernel
theorem dX0_layOne_22 : decode cX0_layOne 22 = .ok (.iload_n 1, 1) := by decide +kernel
theorem dX0_layOne_23 : decode cX0_layOne 23 = .ok (.iload_n 2, 1) := by decide +kernel
theorem dX0_layOne_24 : decode cX0_layOne 24 = .ok (.invokevirtual 61, 3) := by decide +kernel
theorem dX0_layOne_27 : decode cX0_layOne 27 = .ok (.istore_n 3, 1) := by decide +kernel
theorem dX0_layOne_28 : decode cX0_layOne 28 = .ok (.iload_n 3, 1) := by decide +kernel
theorem dX0_layOne_29 : decode cX0_layOne 29 = .ok (.iconst (-1), 1) := by decide +kernel
theorem dX0_layOne_30 : decode cX0_layOne 30 = .ok (.if_icmp .ne 17, 3) := by decide +kernel
theorem dX0_layOne_33 : decode cX0_layOne 33 = .ok (.aload_n 0, 1) := by decide +kernel
theorem dX0_layOne_34 : decode cX0_layOne 34 = .ok (.getfield 34, 3) := by decide +kernel
theorem dX0_layOne_37 : decode cX0_layOne 37 = .ok (.aload_n 0, 1) := by decide +kernel
theorem dX0_layOne_38 : decode cX0_layOne 38 = .ok (.getfield 9, 3) := by decide +kernel
theorem dX0_layOne_41 : decode cX0_layOne 41 = .ok (.imul, 1) := by decide +kernel
theorem dX0_layOne_42 : decode cX0_layOne 42 = .ok (.istore_n 3, 1) := by decide +kernel
theorem dX0_layOne_43 : decode cX0_layOne 43 = .ok (.aload_n 0, 1) := by decide +kernel
theorem dX0_layOne_44 : decode cX0_layOne 44 = .ok (.invokevirtual 44, 3) := by decide +kernel
theorem dX0_layOne_47 : decode cX0_layOne 47 = .ok (.aload_n 0, 1) := by decide +kernel
theorem dX0_layOne_48 : decode cX0_layOne 48 = .ok (.getfield 21, 3) := by decide +kernel
theorem dX0_layOne_51 : decode cX0_layOne 51 = .ok (.iload_n 3, 1) := by decide +kernel
theorem dX0_layOne_52 : decode cX0_layOne 52 = .ok (.dup2, 1) := by decide +kernel
theorem dX0_layOne_53 : decode cX0_layOne 53 = .ok (.iaload, 1) := by decide +kernel
theorem dX0_layOne_54 : decode cX0_layOne 54 = .ok (.iload_n 1, 1) := by decide +kernel
theorem dX0_layOne_55 : decode cX0_layOne 55 = .ok (.isub, 1) := by decide +kernel
theorem dX0_layOne_56 : decode cX0_layOne 56 = .ok (.iastore, 1) := by decide +kernel
theorem dX0_layOne_57 : decode cX0_layOne 57 = .ok (.aload_n 0, 1) := by decide +kernel
theorem dX0_layOne_58 : decode cX0_layOne 58 = .ok (.getfield 28, 3) := by decide +kernel
theorem dX0_layOne_61 : decode cX0_layOne 61 = .ok (.aload_n 0, 1) := by decide +kernel
theorem dX0_layOne_62 : decode cX0_layOne 62 = .ok (.getfield 31, 3) := by decide +kernel
theorem dX0_layOne_65 : decode cX0_layOne 65 = .ok (.iload_n 3, 1) := by decide +kernel
theorem dX0_layOne_66 : decode cX0_layOne 66 = .ok (.iastore, 1) := by decide +kernel
theorem dX0_layOne_67 : decode cX0_layOne 67 = .ok (.aload_n 0, 1) := by decide +kernel
theorem dX0_layOne_68 : decode cX0_layOne 68 = .ok (.iload_n 3, 1) := by decide +kernel
theorem dX0_layOne_69 : decode cX0_layOne 69 = .ok (.putfield 37, 3) := by decide +kernel
theorem dX0_layOne_72 : decode cX0_layOne 72 = .ok (.return_, 1) := by decide +kernel
theorem dX0_beginSheet_0 : decode cX0_beginSheet 0 = .ok (.iconst 0, 1) := by decide +kernel
theorem dX0_beginSheet_1 : decode cX0_beginSheet 1 = .ok (.istore_n 1, 1) := by decide +kernel
theorem dX0_beginSheet_2 : decode cX0_beginSheet 2 = .ok (.iload_n 1, 1) := by decide +kernel
theorem dX0_beginSheet_3 : decode cX0_beginSheet 3 = .ok (.aload_n 0, 1) := by decide +kernel
theorem dX0_beginSheet_4 : decode cX0_beginSheet 4 = .ok (.getfield 9, 3) := by decide +kernel
theorem dX0_beginSheet_7 : decode cX0_beginSheet 7 = .ok (.if_icmp .ge 29, 3) := by decide +kernel
theorem dX0_beginSheet_10 : decode cX0_beginSheet 10 = .ok (.aload_n 0, 1) := by decide +kernel
theorem dX0_beginSheet_11 : decode cX0_beginSheet 11 = .ok (.getfield 21, 3) := by decide +kernel
theorem dX0_beginSheet_14 : decode cX0_beginSheet 14 = .ok (.aload_n 0, 1) := by decide +kernel
theorem dX0_beginSheet_15 : decode cX0_beginSheet 15 = .ok (.getfield 34, 3) := by decide +kernel
theorem dX0_beginSheet_18 : decode cX0_beginSheet 18 = .ok (.aload_n 0, 1) := by decide +kernel
theorem dX0_beginSheet_19 : decode cX0_beginSheet 19 = .ok (.getfield 9, 3) := by decide +kernel
theorem dX0_beginSheet_22 : decode cX0_beginSheet 22 = .ok (.imul, 1) := by decide +kernel
theorem dX0_beginSheet_23 : decode cX0_beginSheet 23 = .ok (.iload_n 1, 1) := by decide +kernel
theorem dX0_beginSheet_24 : decode cX0_beginSheet 24 = .ok (.iadd, 1) := by decide +kernel
theorem dX0_beginSheet_25 : decode cX0_beginSheet 25 = .ok (.aload_n 0, 1) := by decide +kernel
theorem dX0_beginSheet_26 : decode cX0_beginSheet 26 = .ok (.getfield 15, 3) := by decide +kernel
theorem dX0_beginSheet_29 : decode cX0_beginSheet 29 = .ok (.iastore, 1) := by decide +kernel
theorem dX0_beginSheet_30 : decode cX0_beginSheet 30 = .ok (.iinc 1 1, 3) := by decide +kernel
theorem dX0_beginSheet_33 : decode cX0_beginSheet 33 = .ok (.goto (-31), 3) := by decide +kernel
theorem dX0_beginSheet_36 : decode cX0_beginSheet 36 = .ok (.aload_n 0, 1) := by decide +kernel
theorem dX0_beginSheet_37 : decode cX0_beginSheet 37 = .ok (.dup, 1) := by decide +kernel
theorem dX0_beginSheet_38 : decode cX0_beginSheet 38 = .ok (.getfield 34, 3) := by decide +kernel
theorem dX0_beginSheet_41 : decode cX0_beginSheet 41 = .ok (.iconst 1, 1) := by decide +kernel
theorem dX0_beginSheet_42 : decode cX0_beginSheet 42 = .ok (.iadd, 1) := by decide +kernel
theorem dX0_beginSheet_43 : decode cX0_beginSheet 43 = .ok (.putfield 34, 3) := by decide +kernel
theorem dX0_beginSheet_46 : decode cX0_beginSheet 46 = .ok (.return_, 1) := by decide +kernel
theorem dX0_columnFor_0 : decode cX0_columnFor 0 = .ok (.iload_n 2, 1) := by decide +kernel
theorem dX0_columnFor_1 : decode cX0_columnFor 1 = .ok (.tableswitch 45 0 2 #[27, 33, 39], 27) := by decide +kernel
theorem dX0_columnFor_28 : decode cX0_columnFor 28 = .ok (.aload_n 0, 1) := by decide +kernel
theorem dX0_columnFor_29 : decode cX0_columnFor 29 = .ok (.iload_n 1, 1) := by decide +kernel
theorem dX0_columnFor_30 : decode cX0_columnFor 30 = .ok (.invokevirtual 64, 3) := by decide +kernel
theorem dX0_columnFor_33 : decode cX0_columnFor 33 = .ok (.ireturn, 1) := by decide +kernel
theorem dX0_columnFor_34 : decode cX0_columnFor 34 = .ok (.aload_n 0, 1) := by decide +kernel
theorem dX0_columnFor_35 : decode cX0_columnFor 35 = .ok (.iload_n 1, 1) := by decide +kernel
theorem dX0_columnFor_36 : decode cX0_columnFor 36 = .ok (.invokevirtual 68, 3) := by decide +kernel
theorem dX0_columnFor_39 : decode cX0_columnFor 39 = .ok (.ireturn, 1) := by decide +kernel
theorem dX0_columnFor_40 : decode cX0_columnFor 40 = .ok (.aload_n 0, 1) := by decide +kernel
theorem dX0_columnFor_41 : decode cX0_columnFor 41 = .ok (.iload_n 1, 1) := by decide +kernel
theorem dX0_columnFor_42 : decode cX0_columnFor 42 = .ok (.invokevirtual 71, 3) := by decide +kernel
theorem dX0_columnFor_45 : decode cX0_columnFor 45 = .ok (.ireturn, 1) := by decide +kernel
theorem dX0_columnFor_46 : decode cX0_columnFor 46 = .ok (.aload_n 0, 1) := by decide +kernel
theorem dX0_columnFor_47 : decode cX0_columnFor 47 = .ok (.iload_n 1, 1) := by decide +kernel
theorem dX0_columnFor_48 : decode cX0_columnFor 48 = .ok (.invokevirtual 74, 3) := by decide +kernel
theorem dX0_columnFor_51 : decode cX0_columnFor 51 = .ok (.ireturn, 1) := by decide +kernel
theorem dX0_nextColumn_0 : decode cX0_nextColumn 0 = .ok (.aload_n 0, 1) := by decide +kernel
theorem dX0_nextColumn_1 : decode cX0_nextColumn 1 = .ok (.getfield 37, 3) := by decide +kernel
theorem dX0_nextColumn_4 : decode cX0_nextColumn 4 = .ok (.istore_n 2, 1) := by decide +kernel
theorem dX0_nextColumn_5 : decode cX0_nextColumn 5 = .ok (.iload_n 2, 1) := by decide +kernel
theorem dX0_nextColumn_6 : decode cX0_nextColumn 6 = .ok (.aload_n 0, 1) := by decide +kernel
theorem dX0_nextColumn_7 : decode cX0_nextColumn 7 = .ok (.getfield 37, 3) := by decide +kernel
theorem dX0_nextColumn_10 : decode cX0_nextColumn 10 = .ok (.iconst 1, 1) := by decide +kernel
theorem dX0_nextColumn_11 : decode cX0_nextColumn 11 = .ok (.iadd, 1) := by decide +kernel
theorem dX0_nextColumn_12 : decode cX0_nextColumn 12 = .ok (.if_icmp .gt 34, 3) := by decide +kernel
theorem dX0_nextColumn_15 : decode cX0_nextColumn 15 = .ok (.iload_n 2, 1) := by decide +kernel
theorem dX0_nextColumn_16 : decode cX0_nextColumn 16 = .ok (.aload_n 0, 1) := by decide +kernel
theorem dX0_nextColumn_17 : decode cX0_nextColumn 17 = .ok (.getfield 34, 3) := by decide +kernel
theorem dX0_nextColumn_20 : decode cX0_nextColumn 20 = .ok (.aload_n 0, 1) := by decide +kernel
theorem dX0_nextColumn_21 : decode cX0_nextColumn 21 = .ok (.getfield 9, 3) := by decide +kernel
theorem dX0_nextColumn_24 : decode cX0_nextColumn 24 = .ok (.imul, 1) := by decide +kernel
theorem dX0_nextColumn_25 : decode cX0_nextColumn 25 = .ok (.if_icmp .ge 21, 3) := by decide +kernel
theorem dX0_nextColumn_28 : decode cX0_nextColumn 28 = .ok (.aload_n 0, 1) := by decide +kernel
theorem dX0_nextColumn_29 : decode cX0_nextColumn 29 = .ok (.getfield 21, 3) := by decide +kernel
theorem dX0_nextColumn_32 : decode cX0_nextColumn 32 = .ok (.iload_n 2, 1) := by decide +kernel
theorem dX0_nextColumn_33 : decode cX0_nextColumn 33 = .ok (.iaload, 1) := by decide +kernel
theorem dX0_nextColumn_34 : decode cX0_nextColumn 34 = .ok (.iload_n 1, 1) := by decide +kernel
theorem dX0_nextColumn_35 : decode cX0_nextColumn 35 = .ok (.if_icmp .lt 5, 3) := by decide +kernel
theorem dX0_nextColumn_38 : decode cX0_nextColumn 38 = .ok (.iload_n 2, 1) := by decide +kernel
theorem dX0_nextColumn_39 : decode cX0_nextColumn 39 = .ok (.ireturn, 1) := by decide +kernel
theorem dX0_nextColumn_40 : decode cX0_nextColumn 40 = .ok (.iinc 2 1, 3) := by decide +kernel
theorem dX0_nextColumn_43 : decode cX0_nextColumn 43 = .ok (.goto (-38), 3) := by decide +kernel
theorem dX0_nextColumn_46 : decode cX0_nextColumn 46 = .ok (.iconst (-1), 1) := by decide +kernel
theorem dX0_nextColumn_47 : decode cX0_nextColumn 47 = .ok (.ireturn, 1) := by decide +kernel
theorem dX0_firstColumn_0 : decode cX0_firstColumn 0 = .ok (.iconst 0, 1) := by decide +kernel
theorem dX0_firstColumn_1 : decode cX0_firstColumn 1 = .ok (.istore_n 2, 1) := by decide +kernel
theorem dX0_firstColumn_2 : decode cX0_firstColumn 2 = .ok (.iload_n 2, 1) := by decide +kernel
theorem dX0_firstColumn_3 : decode cX0_firstColumn 3 = .ok (.aload_n 0, 1) := by decide +kernel
theorem dX0_firstColumn_4 : decode cX0_firstColumn 4 = .ok (.getfield 34, 3) := by decide +kernel
theorem dX0_firstColumn_7 : decode cX0_firstColumn 7 = .ok (.aload_n 0, 1) := by decide +kernel
theorem dX0_firstColumn_8 : decode cX0_firstColumn 8 = .ok (.getfield 9, 3) := by decide +kernel
theorem dX0_firstColumn_11 : decode cX0_firstColumn 11 = .ok (.imul, 1) := by decide +kernel
theorem dX0_firstColumn_12 : decode cX0_firstColumn 12 = .ok (.if_icmp .ge 21, 3) := by decide +kernel
theorem dX0_firstColumn_15 : decode cX0_firstColumn 15 = .ok (.aload_n 0, 1) := by decide +kernel
theorem dX0_firstColumn_16 : decode cX0_firstColumn 16 = .ok (.getfield 21, 3) := by decide +kernel
theorem dX0_firstColumn_19 : decode cX0_firstColumn 19 = .ok (.iload_n 2, 1) := by decide +kernel
theorem dX0_firstColumn_20 : decode cX0_firstColumn 20 = .ok (.iaload, 1) := by decide +kernel
theorem dX0_firstColumn_21 : decode cX0_firstColumn 21 = .ok (.iload_n 1, 1) := by decide +kernel
theorem dX0_firstColumn_22 : decode cX0_firstColumn 22 = .ok (.if_icmp .lt 5, 3) := by decide +kernel
theorem dX0_firstColumn_25 : decode cX0_firstColumn 25 = .ok (.iload_n 2, 1) := by decide +kernel
theorem dX0_firstColumn_26 : decode cX0_firstColumn 26 = .ok (.ireturn, 1) := by decide +kernel
theorem dX0_firstColumn_27 : decode cX0_firstColumn 27 = .ok (.iinc 2 1, 3) := by decide +kernel
theorem dX0_firstColumn_30 : decode cX0_firstColumn 30 = .ok (.goto (-28), 3) := by decide +kernel
theorem dX0_firstColumn_33 : decode cX0_firstColumn 33 = .ok (.iconst (-1), 1) := by decide +kernel
theorem dX0_firstColumn_34 : decode cX0_firstColumn 34 = .ok (.ireturn, 1) := by decide +kernel
theorem dX0_tightColumn_0 : decode cX0_tightColumn 0 = .ok (.iconst (-1), 1) := by decide +kernel
theorem dX0_tightColumn_1 : decode cX0_tightColumn 1 = .ok (.istore_n 2, 1) := by decide +kernel
theorem dX0_tightColumn_2 : decode cX0_tightColumn 2 = .ok (.iconst 0, 1) := by decide +kernel
theorem dX0_tightColumn_3 : decode cX0_tightColumn 3 = .ok (.istore_n 3, 1) := by decide +kernel
theorem dX0_tightColumn_4 : decode cX0_tightColumn 4 = .ok (.iload_n 3, 1) := by decide +kernel
theorem dX0_tightColumn_5 : decode cX0_tightColumn 5 = .ok (.aload_n 0, 1) := by decide +kernel
theorem dX0_tightColumn_6 : decode cX0_tightColumn 6 = .ok (.getfield 34, 3) := by decide +kernel
theorem dX0_tightColumn_9 : decode cX0_tightColumn 9 = .ok (.aload_n 0, 1) := by decide +kernel
theorem dX0_tightColumn_10 : decode cX0_tightColumn 10 = .ok (.getfield 9, 3) := by decide +kernel
theorem dX0_tightColumn_13 : decode cX0_tightColumn 13 = .ok (.imul, 1) := by decide +kernel
theorem dX0_tightColumn_14 : decode cX0_tightColumn 14 = .ok (.if_icmp .ge 41, 3) := by decide +kernel
theorem dX0_tightColumn_17 : decode cX0_tightColumn 17 = .ok (.aload_n 0, 1) := by decide +kernel
theorem dX0_tightColumn_18 : decode cX0_tightColumn 18 = .ok (.getfield 21, 3) := by decide +kernel
theorem dX0_tightColumn_21 : decode cX0_tightColumn 21 = .ok (.iload_n 3, 1) := by decide +kernel
theorem dX0_tightColumn_22 : decode cX0_tightColumn 22 = .ok (.iaload, 1) := by decide +kernel
theorem dX0_tightColumn_23 : decode cX0_tightColumn 23 = .ok (.iload_n 1, 1) := by decide +kernel
theorem dX0_tightColumn_24 : decode cX0_tightColumn 24 = .ok (.if_icmp .lt 25, 3) := by decide +kernel
theorem dX0_tightColumn_27 : decode cX0_tightColumn 27 = .ok (.iload_n 2, 1) := by decide +kernel
theorem dX0_tightColumn_28 : decode cX0_tightColumn 28 = .ok (.iconst (-1), 1) := by decide +kernel
theorem dX0_tightColumn_29 : decode cX0_tightColumn 29 = .ok (.if_icmp .eq 18, 3) := by decide +kernel
theorem dX0_tightColumn_32 : decode cX0_tightColumn 32 = .ok (.aload_n 0, 1) := by decide +kernel
theorem dX0_tightColumn_33 : decode cX0_tightColumn 33 = .ok (.getfield 21, 3) := by decide +kernel
theorem dX0_tightColumn_36 : decode cX0_tightColumn 36 = .ok (.iload_n 3, 1) := by decide +kernel
theorem dX0_tightColumn_37 : decode cX0_tightColumn 37 = .ok (.iaload, 1) := by decide +kernel
theorem dX0_tightColumn_38 : decode cX0_tightColumn 38 = .ok (.aload_n 0, 1) := by decide +kernel
theorem dX0_tightColumn_39 : decode cX0_tightColumn 39 = .ok (.getfield 21, 3) := by decide +kernel
theorem dX0_tightColumn_42 : decode cX0_tightColumn 42 = .ok (.iload_n 2, 1) := by decide +kernel
theorem dX0_tightColumn_43 : decode cX0_tightColumn 43 = .ok (.iaload, 1) := by decide +kernel
theorem dX0_tightColumn_44 : decode cX0_tightColumn 44 = .ok (.if_icmp .ge 5, 3) := by decide +kernel
theorem dX0_tightColumn_47 : decode cX0_tightColumn 47 = .ok (.iload_n 3, 1) := by decide +kernel
theorem dX0_tightColumn_48 : decode cX0_tightColumn 48 = .ok (.istore_n 2, 1) := by decide +kernel
theorem dX0_tightColumn_49 : decode cX0_tightColumn 49 = .ok (.iinc 3 1, 3) := by decide +kernel
theorem dX0_tightColumn_52 : decode cX0_tightColumn 52 = .ok (.goto (-48), 3) := by decide +kernel
theorem dX0_tightColumn_55 : decode cX0_tightColumn 55 = .ok (.iload_n 2, 1) := by decide +kernel
theorem dX0_tightColumn_56 : decode cX0_tightColumn 56 = .ok (.ireturn, 1) := by decide +kernel
theorem dX0_looseColumn_0 : decode cX0_looseColumn 0 = .ok (.iconst (-1), 1) := by decide +kernel
theorem dX0_looseColumn_1 : decode cX0_looseColumn 1 = .ok (.istore_n 2, 1) := by decide +kernel
theorem dX0_looseColumn_2 : decode cX0_looseColumn 2 = .ok (.iconst 0, 1) := by decide +kernel
theorem dX0_looseColumn_3 : decode cX0_looseColumn 3 = .ok (.istore_n 3, 1) := by decide +kernel
theorem dX0_looseColumn_4 : decode cX0_looseColumn 4 = .ok (.iload_n 3, 1) := by decide +kernel
theorem dX0_looseColumn_5 : decode cX0_looseColumn 5 = .ok (.aload_n 0, 1) := by decide +kernel
theorem dX0_looseColumn_6 : decode cX0_looseColumn 6 = .ok (.getfield 34, 3) := by decide +kernel
theorem dX0_looseColumn_9 : decode cX0_looseColumn 9 = .ok (.aload_n 0, 1) := by decide +kernel
theorem dX0_looseColumn_10 : decode cX0_looseColumn 10 = .ok (.getfield 9, 3) := by decide +kernel
theorem dX0_looseColumn_13 : decode cX0_looseColumn 13 = .ok (.imul, 1) := by decide +kernel
theorem dX0_looseColumn_14 : decode cX0_looseColumn 14 = .ok (.if_icmp .ge 41, 3) := by decide +kernel
theorem dX0_looseColumn_17 : decode cX0_looseColumn 17 = .ok (.aload_n 0, 1) := by decide +kernel
theorem dX0_looseColumn_18 : decode cX0_looseColumn 18 = .ok (.getfield 21, 3) := by decide +kernel
theorem dX0_looseColumn_21 : decode cX0_looseColumn 21 = .ok (.iload_n 3, 1) := by decide +kernel
theorem dX0_looseColumn_22 : decode cX0_looseColumn 22 = .ok (.iaload, 1) := by decide +kernel
theorem dX0_looseColumn_23 : decode cX0_looseColumn 23 = .ok (.iload_n 1, 1) := by decide +kernel
theorem dX0_looseColumn_24 : decode cX0_looseColumn 24 = .ok (.if_icmp .lt 25, 3) := by decide +kernel
theorem dX0_looseColumn_27 : decode cX0_looseColumn 27 = .ok (.iload_n 2, 1) := by decide +kernel
theorem dX0_looseColumn_28 : decode cX0_looseColumn 28 = .ok (.iconst (-1), 1) := by decide +kernel
theorem dX0_looseColumn_29 : decode cX0_looseColumn 29 = .ok (.if_icmp .eq 18, 3) := by decide +kernel
theorem dX0_looseColumn_32 : decode cX0_looseColumn 32 = .ok (.aload_n 0, 1) := by decide +kernel
theorem dX0_looseColumn_33 : decode cX0_looseColumn 33 = .ok (.getfield 21, 3) := by decide +kernel
theorem dX0_looseColumn_36 : decode cX0_looseColumn 36 = .ok (.iload_n 3, 1) := by decide +kernel
theorem dX0_looseColumn_37 : decode cX0_looseColumn 37 = .ok (.iaload, 1) := by decide +kernel
theorem dX0_looseColumn_38 : decode cX0_looseColumn 38 = .ok (.aload_n 0, 1) := by decide +kernel
theorem dX0_looseColumn_39 : decode cX0_looseColumn 39 = .ok (.getfield 21, 3) := by decide +kernel
theorem dX0_looseColumn_42 : decode cX0_looseColumn 42 = .ok (.iload_n 2, 1) := by decide +kernel
theorem dX0_looseColumn_43 : decode cX0_looseColumn 43 = .ok (.iaload, 1) := by decide +kernel
theorem dX0_looseColumn_44 : decode cX0_looseColumn 44 = .ok (.if_icmp .le 5, 3) := by decide +kernel
theorem dX0_looseColumn_47 : decode cX0_looseColumn 47 = .ok (.iload_n 3, 1) := by decide +kernel
theorem dX0_looseColumn_48 : decode cX0_looseColumn 48 = .ok (.istore_n 2, 1) := by decide +kernel
theorem dX0_looseColumn_49 : decode cX0_looseColumn 49 = .ok (.iinc 3 1, 3) := by decide +kernel
theorem dX0_looseColumn_52 : decode cX0_looseColumn 52 = .ok (.goto (-48), 3) := by decide +kernel
theorem dX0_looseColumn_55 : decode cX0_looseColumn 55 = .ok (.iload_n 2, 1) := by decide +kernel
theorem dX0_looseColumn_56 : decode cX0_looseColumn 56 = .ok (.ireturn, 1) := by decide +kernel
theorem dX0_roomLeft_0 : decode cX0_roomLeft 0 = .ok (.iconst 0, 1) := by decide +kernel
theorem dX0_roomLeft_1 : decode cX0_roomLeft 1 = .ok (.istore_n 1, 1) := by decide +kernel
theorem dX0_roomLeft_2 : decode cX0_roomLeft 2 = .ok (.iconst 0, 1) := by decide +kernel
theorem dX0_roomLeft_3 : decode cX0_roomLeft 3 = .ok (.istore_n 2, 1) := by decide +kernel
theorem dX0_roomLeft_4 : decode cX0_roomLeft 4 = .ok (.iload_n 2, 1) := by decide +kernel
theorem dX0_roomLeft_5 : decode cX0_roomLeft 5 = .ok (.aload_n 0, 1) := by decide +kernel
theorem dX0_roomLeft_6 : decode cX0_roomLeft 6 = .ok (.getfield 34, 3) := by decide +kernel
theorem dX0_roomLeft_9 : decode cX0_roomLeft 9 = .ok (.aload_n 0, 1) := by decide +kernel
theorem dX0_roomLeft_10 : decode cX0_roomLeft 10 = .ok (.getfield 9, 3) := by decide +kernel
theorem dX0_roomLeft_13 : decode cX0_roomLeft 13 = .ok (.imul, 1) := by decide +kernel
theorem dX0_roomLeft_14 : decode cX0_roomLeft 14 = .ok (.if_icmp .ge 18, 3) := by decide +kernel
theorem dX0_roomLeft_17 : decode cX0_roomLeft 17 = .ok (.iload_n 1, 1) := by decide +kernel
theorem dX0_roomLeft_18 : decode cX0_roomLeft 18 = .ok (.aload_n 0, 1) := by decide +kernel
theorem dX0_roomLeft_19 : decode cX0_roomLeft 19 = .ok (.getfield 21, 3) := by decide +kernel
theorem dX0_roomLeft_22 : decode cX0_roomLeft 22 = .ok (.iload_n 2, 1) := by decide +kernel
theorem dX0_roomLeft_23 : decode cX0_roomLeft 23 = .ok (.iaload, 1) := by decide +kernel
theorem dX0_roomLeft_24 : decode cX0_roomLeft 24 = .ok (.iadd, 1) := by decide +kernel
theorem dX0_roomLeft_25 : decode cX0_roomLeft 25 = .ok (.istore_n 1, 1) := by decide +kernel
theorem dX0_roomLeft_26 : decode cX0_roomLeft 26 = .ok (.iinc 2 1, 3) := by decide +kernel
theorem dX0_roomLeft_29 : decode cX0_roomLeft 29 = .ok (.goto (-25), 3) := by decide +kernel
theorem dX0_roomLeft_32 : decode cX0_roomLeft 32 = .ok (.iload_n 1, 1) := by decide +kernel
theorem dX0_roomLeft_33 : decode cX0_roomLeft 33 = .ok (.ireturn, 1) := by decide +kernel
theorem dX1_init_0 : decode cX1_init 0 = .ok (.aload_n 0, 1) := by decide +kernel
theorem dX1_init_1 : decode cX1_init 1 = .ok (.invokespecial 1, 3) := by decide +kernel
theorem dX1_init_4 : decode cX1_init 4 = .ok (.aload_n 0, 1) := by decide +kernel
theorem dX1_init_5 : decode cX1_init 5 = .ok (.bipush 8, 2) := by decide +kernel
theorem dX1_init_7 : decode cX1_init 7 = .ok (.anewarray 9, 3) := by decide +kernel
theorem dX1_init_10 : decode cX1_init 10 = .ok (.putfield 11, 3) := by decide +kernel
theorem dX1_init_13 : decode cX1_init 13 = .ok (.aload_n 0, 1) := by decide +kernel
theorem dX1_init_14 : decode cX1_init 14 = .ok (.iconst 0, 1) := by decide +kernel
theorem dX1_init_15 : decode cX1_init 15 = .ok (.putfield 15, 3) := by decide +kernel
theorem dX1_init_18 : decode cX1_init 18 = .ok (.aload_n 0, 1) := by decide +kernel
theorem dX1_init_19 : decode cX1_init 19 = .ok (.iconst 0, 1) := by decide +kernel
theorem dX1_init_20 : decode cX1_init 20 = .ok (.putfield 19, 3) := by decide +kernel
theorem dX1_init_23 : decode cX1_init 23 = .ok (.iconst 0, 1) := by decide +kernel
theorem dX1_init_24 : decode cX1_init 24 = .ok (.istore_n 1, 1) := by decide +kernel
theorem dX1_init_25 : decode cX1_init 25 = .ok (.iload_n 1, 1) := by decide +kernel
theorem dX1_init_26 : decode cX1_init 26 = .ok (.bipush 8, 2) := by decide +kernel
theorem dX1_init_28 : decode cX1_init 28 = .ok (.if_icmp .ge 22, 3) := by decide +kernel
theorem dX1_init_31 : decode cX1_init 31 = .ok (.aload_n 0, 1) := by decide +kernel
theorem dX1_init_32 : decode cX1_init 32 = .ok (.getfield 11, 3) := by decide +kernel
theorem dX1_init_35 : decode cX1_init 35 = .ok (.iload_n 1, 1) := by decide +kernel
theorem dX1_init_36 : decode cX1_init 36 = .ok (.new 9, 3) := by decide +kernel
theorem dX1_init_39 : decode cX1_init 39 = .ok (.dup, 1) := by decide +kernel
theorem dX1_init_40 : decode cX1_init 40 = .ok (.invokespecial 22, 3) := by decide +kernel
theorem dX1_init_43 : decode cX1_init 43 = .ok (.aastore, 1) := by decide +kernel
theorem dX1_init_44 : decode cX1_init 44 = .ok (.iinc 1 1, 3) := by decide +kernel
theorem dX1_init_47 : decode cX1_init 47 = .ok (.goto (-22), 3) := by decide +kernel
theorem dX1_init_50 : decode cX1_init 50 = .ok (.return_, 1) := by decide +kernel
theorem dX1_keep_0 : decode cX1_keep 0 = .ok (.aload_n 0, 1) := by decide +kernel
theorem dX1_keep_1 : decode cX1_keep 1 = .ok (.getfield 11, 3) := by decide +kernel
theorem dX1_keep_4 : decode cX1_keep 4 = .ok (.aload_n 0, 1) := by decide +kernel
theorem dX1_keep_5 : decode cX1_keep 5 = .ok (.getfield 15, 3) := by decide +kernel
theorem dX1_keep_8 : decode cX1_keep 8 = .ok (.aaload, 1) := by decide +kernel
theorem dX1_keep_9 : decode cX1_keep 9 = .ok (.astore_n 2, 1) := by decide +kernel
theorem dX1_keep_10 : decode cX1_keep 10 = .ok (.aload_n 2, 1) := by decide +kernel
theorem dX1_keep_11 : decode cX1_keep 11 = .ok (.aload_n 1, 1) := by decide +kernel
theorem dX1_keep_12 : decode cX1_keep 12 = .ok (.invokevirtual 23, 3) := by decide +kernel
theorem dX1_keep_15 : decode cX1_keep 15 = .ok (.aload_n 0, 1) := by decide +kernel
theorem dX1_keep_16 : decode cX1_keep 16 = .ok (.aload_n 0, 1) := by decide +kernel
theorem dX1_keep_17 : decode cX1_keep 17 = .ok (.getfield 15, 3) := by decide +kernel
theorem dX1_keep_20 : decode cX1_keep 20 = .ok (.iconst 1, 1) := by decide +kernel
theorem dX1_keep_21 : decode cX1_keep 21 = .ok (.iadd, 1) := by decide +kernel
theorem dX1_keep_22 : decode cX1_keep 22 = .ok (.bipush 8, 2) := by decide +kernel
theorem dX1_keep_24 : decode cX1_keep 24 = .ok (.irem, 1) := by decide +kernel
theorem dX1_keep_25 : decode cX1_keep 25 = .ok (.putfield 15, 3) := by decide +kernel
theorem dX1_keep_28 : decode cX1_keep 28 = .ok (.aload_n 0, 1) := by decide +kernel
theorem dX1_keep_29 : decode cX1_keep 29 = .ok (.aload_n 0, 1) := by decide +kernel
theorem dX1_keep_30 : decode cX1_keep 30 = .ok (.getfield 19, 3) := by decide +kernel
theorem dX1_keep_33 : decode cX1_keep 33 = .ok (.iconst 1, 1) := by decide +kernel
theorem dX1_keep_34 : decode cX1_keep 34 = .ok (.iadd, 1) := by decide +kernel
theorem dX1_keep_35 : decode cX1_keep 35 = .ok (.bipush 8, 2) := by decide +kernel
theorem dX1_keep_37 : decode cX1_keep 37 = .ok (.invokestatic 27, 3) := by decide +kernel
theorem dX1_keep_40 : decode cX1_keep 40 = .ok (.putfield 19, 3) := by decide +kernel
theorem dX1_keep_43 : decode cX1_keep 43 = .ok (.aload_n 2, 1) := by decide +kernel
theorem dX1_keep_44 : decode cX1_keep 44 = .ok (.areturn, 1) := by decide +kernel
theorem dX1_takeBack_0 : decode cX1_takeBack 0 = .ok (.aload_n 0, 1) := by decide +kernel
theorem dX1_takeBack_1 : decode cX1_takeBack 1 = .ok (.getfield 19, 3) := by decide +kernel
theorem dX1_takeBack_4 : decode cX1_takeBack 4 = .ok (.ifCond .le 42, 3) := by decide +kernel
theorem dX1_takeBack_7 : decode cX1_takeBack 7 = .ok (.aload_n 0, 1) := by decide +kernel
theorem dX1_takeBack_8 : decode cX1_takeBack 8 = .ok (.aload_n 0, 1) := by decide +kernel
theorem dX1_takeBack_9 : decode cX1_takeBack 9 = .ok (.getfield 15, 3) := by decide +kernel
theorem dX1_takeBack_12 : decode cX1_takeBack 12 = .ok (.bipush 8, 2) := by decide +kernel
theorem dX1_takeBack_14 : decode cX1_takeBack 14 = .ok (.iadd, 1) := by decide +kernel
theorem dX1_takeBack_15 : decode cX1_takeBack 15 = .ok (.iconst 1, 1) := by decide +kernel
theorem dX1_takeBack_16 : decode cX1_takeBack 16 = .ok (.isub, 1) := by decide +kernel
theorem dX1_takeBack_17 : decode cX1_takeBack 17 = .ok (.bipush 8, 2) := by decide +kernel
theorem dX1_takeBack_19 : decode cX1_takeBack 19 = .ok (.irem, 1) := by decide +kernel
theorem dX1_takeBack_20 : decode cX1_takeBack 20 = .ok (.putfield 15, 3) := by decide +kernel
theorem dX1_takeBack_23 : decode cX1_takeBack 23 = .ok (.aload_n 0, 1) := by decide +kernel
theorem dX1_takeBack_24 : decode cX1_takeBack 24 = .ok (.dup, 1) := by decide +kernel
theorem dX1_takeBack_25 : decode cX1_takeBack 25 = .ok (.getfield 19, 3) := by decide +kernel
theorem dX1_takeBack_28 : decode cX1_takeBack 28 = .ok (.iconst 1, 1) := by decide +kernel
theorem dX1_takeBack_29 : decode cX1_takeBack 29 = .ok (.isub, 1) := by decide +kernel
theorem dX1_takeBack_30 : decode cX1_takeBack 30 = .ok (.putfield 19, 3) := by decide +kernel
theorem dX1_takeBack_33 : decode cX1_takeBack 33 = .ok (.aload_n 1, 1) := by decide +kernel
theorem dX1_takeBack_34 : decode cX1_takeBack 34 = .ok (.aload_n 0, 1) := by decide +kernel
theorem dX1_takeBack_35 : decode cX1_takeBack 35 = .ok (.getfield 11, 3) := by decide +kernel
theorem dX1_takeBack_38 : decode cX1_takeBack 38 = .ok (.aload_n 0, 1) := by decide +kernel
theorem dX1_takeBack_39 : decode cX1_takeBack 39 = .ok (.getfield 15, 3) := by decide +kernel
theorem dX1_takeBack_42 : decode cX1_takeBack 42 = .ok (.aaload, 1) := by decide +kernel
theorem dX1_takeBack_43 : decode cX1_takeBack 43 = .ok (.invokevirtual 23, 3) := by decide +kernel
theorem dX1_takeBack_46 : decode cX1_takeBack 46 = .ok (.aload_n 0, 1) := by decide +kernel
theorem dX1_takeBack_47 : decode cX1_takeBack 47 = .ok (.getfield 19, 3) := by decide +kernel
theorem dX1_takeBack_50 : decode cX1_takeBack 50 = .ok (.ireturn, 1) := by decide +kernel
theorem dX2_init_0 : decode cX2_init 0 = .ok (.aload_n 0, 1) := by decide +kernel
theorem dX2_init_1 : decode cX2_init 1 = .ok (.invokespecial 5, 3) := by decide +kernel
theorem dX2_init_4 : decode cX2_init 4 = .ok (.aload_n 0, 1) := by decide +kernel
theorem dX2_init_5 : decode cX2_init 5 = .ok (.bipush 120, 2) := by decide +kernel
theorem dX2_init_7 : decode cX2_init 7 = .ok (.newarray .byte, 2) := by decide +kernel
theorem dX2_init_9 : decode cX2_init 9 = .ok (.putfield 11, 3) := by decide +kernel
theorem dX2_init_12 : decode cX2_init 12 = .ok (.aload_n 0, 1) := by decide +kernel
theorem dX2_init_13 : decode cX2_init 13 = .ok (.iconst 0, 1) := by decide +kernel
theorem dX2_init_14 : decode cX2_init 14 = .ok (.putfield 15, 3) := by decide +kernel
theorem dX2_init_17 : decode cX2_init 17 = .ok (.aload_n 0, 1) := by decide +kernel
theorem dX2_init_18 : decode cX2_init 18 = .ok (.sipush 150, 3) := by decide +kernel
theorem dX2_init_21 : decode cX2_init 21 = .ok (.newarray .int, 2) := by decide +kernel
theorem dX2_init_23 : decode cX2_init 23 = .ok (.putfield 19, 3) := by decide +kernel
theorem dX2_init_26 : decode cX2_init 26 = .ok (.aload_n 0, 1) := by decide +kernel
theorem dX2_init_27 : decode cX2_init 27 = .ok (.iconst 0, 1) := by decide +kernel
theorem dX2_init_28 : decode cX2_init 28 = .ok (.putfield 23, 3) := by decide +kernel
theorem dX2_init_31 : decode cX2_init 31 = .ok (.aload_n 0, 1) := by decide +kernel
theorem dX2_init_32 : decode cX2_init 32 = .ok (.iconst 0, 1) := by decide +kernel
theorem dX2_init_33 : decode cX2_init 33 = .ok (.putfield 26, 3) := by decide +kernel
theorem dX2_init_36 : decode cX2_init 36 = .ok (.aload_n 0, 1) := by decide +kernel
theorem dX2_init_37 : decode cX2_init 37 = .ok (.iconst 0, 1) := by decide +kernel
theorem dX2_init_38 : decode cX2_init 38 = .ok (.putfield 29, 3) := by decide +kernel
theorem dX2_init_41 : decode cX2_init 41 = .ok (.aload_n 0, 1) := by decide +kernel
theorem dX2_init_42 : decode cX2_init 42 = .ok (.iconst 0, 1) := by decide +kernel
theorem dX2_init_43 : decode cX2_init 43 = .ok (.putfield 32, 3) := by decide +kernel
theorem dX2_init_46 : decode cX2_init 46 = .ok (.return_, 1) := by decide +kernel
theorem dX2_isFull_0 : decode cX2_isFull 0 = .ok (.aload_n 0, 1) := by decide +kernel
theorem dX2_isFull_1 : decode cX2_isFull 1 = .ok (.getfield 15, 3) := by decide +kernel
theorem dX2_isFull_4 : decode cX2_isFull 4 = .ok (.bipush 120, 2) := by decide +kernel
theorem dX2_isFull_6 : decode cX2_isFull 6 = .ok (.if_icmp .lt 7, 3) := by decide +kernel
theorem dX2_isFull_9 : decode cX2_isFull 9 = .ok (.iconst 1, 1) := by decide +kernel
theorem dX2_isFull_10 : decode cX2_isFull 10 = .ok (.goto 4, 3) := by decide +kernel
theorem dX2_isFull_13 : decode cX2_isFull 13 = .ok (.iconst 0, 1) := by decide +kernel
theorem dX2_isFull_14 : decode cX2_isFull 14 = .ok (.ireturn, 1) := by decide +kernel
theorem dX2_addByte_0 : decode cX2_addByte 0 = .ok (.aload_n 0, 1) := by decide +kernel
theorem dX2_addByte_1 : decode cX2_addByte 1 = .ok (.invokevirtual 35, 3) := by decide +kernel
theorem dX2_addByte_4 : decode cX2_addByte 4 = .ok (.ifCond .ne 24, 3) := by decide +kernel
theorem dX2_addByte_7 : decode cX2_addByte 7 = .ok (.aload_n 0, 1) := by decide +kernel
theorem dX2_addByte_8 : decode cX2_addByte 8 = .ok (.getfield 11, 3) := by decide +kernel
theorem dX2_addByte_11 : decode cX2_addByte 11 = .ok (.aload_n 0, 1) := by decide +kernel
theorem dX2_addByte_12 : decode cX2_addByte 12 = .ok (.getfield 15, 3) := by decide +kernel
theorem dX2_addByte_15 : decode cX2_addByte 15 = .ok (.iload_n 1, 1) := by decide +kernel
theorem dX2_addByte_16 : decode cX2_addByte 16 = .ok (.i2b, 1) := by decide +kernel
theorem dX2_addByte_17 : decode cX2_addByte 17 = .ok (.bastore, 1) := by decide +kernel
theorem dX2_addByte_18 : decode cX2_addByte 18 = .ok (.aload_n 0, 1) := by decide +kernel
theorem dX2_addByte_19 : decode cX2_addByte 19 = .ok (.dup, 1) := by decide +kernel
theorem dX2_addByte_20 : decode cX2_addByte 20 = .ok (.getfield 15, 3) := by decide +kernel
theorem dX2_addByte_23 : decode cX2_addByte 23 = .ok (.iconst 1, 1) := by decide +kernel
theorem dX2_addByte_24 : decode cX2_addByte 24 = .ok (.iadd, 1) := by decide +kernel
theorem dX2_addByte_25 : decode cX2_addByte 25 = .ok (.putfield 15, 3) := by decide +kernel
theorem dX2_addByte_28 : decode cX2_addByte 28 = .ok (.aload_n 0, 1) := by decide +kernel
theorem dX2_addByte_29 : decode cX2_addByte 29 = .ok (.getfield 15, 3) := by decide +kernel
theorem dX2_addByte_32 : decode cX2_addByte 32 = .ok (.ireturn, 1) := by decide +kernel
theorem dX2_makeEmpty_0 : decode cX2_makeEmpty 0 = .ok (.aload_n 0, 1) := by decide +kernel
theorem dX2_makeEmpty_1 : decode cX2_makeEmpty 1 = .ok (.getfield 15, 3) := by decide +kernel
theorem dX2_makeEmpty_4 : decode cX2_makeEmpty 4 = .ok (.istore_n 1, 1) := by decide +kernel
theorem dX2_makeEmpty_5 : decode cX2_makeEmpty 5 = .ok (.aload_n 0, 1) := by decide +kernel
theorem dX2_makeEmpty_6 : decode cX2_makeEmpty 6 = .ok (.iconst 0, 1) := by decide +kernel
theorem dX2_makeEmpty_7 : decode cX2_makeEmpty 7 = .ok (.putfield 15, 3) := by decide +kernel
theorem dX2_makeEmpty_10 : decode cX2_makeEmpty 10 = .ok (.iload_n 1, 1) := by decide +kernel
theorem dX2_makeEmpty_11 : decode cX2_makeEmpty 11 = .ok (.ireturn, 1) := by decide +kernel
theorem dX2_readOrders_0 : decode cX2_readOrders 0 = .ok (.aload_n 0, 1) := by decide +kernel
theorem dX2_readOrders_1 : decode cX2_readOrders 1 = .ok (.iconst 0, 1) := by decide +kernel
theorem dX2_readOrders_2 : decode cX2_readOrders 2 = .ok (.putfield 23, 3) := by decide +kernel
theorem dX2_readOrders_5 : decode cX2_readOrders 5 = .ok (.aload_n 0, 1) := by decide +kernel
theorem dX2_readOrders_6 : decode cX2_readOrders 6 = .ok (.iconst 0, 1) := by decide +kernel
theorem dX2_readOrders_7 : decode cX2_readOrders 7 = .ok (.putfield 32, 3) := by decide +kernel
theorem dX2_readOrders_10 : decode cX2_readOrders 10 = .ok (.aload_n 0, 1) := by decide +kernel
theorem dX2_readOrders_11 : decode cX2_readOrders 11 = .ok (.invokevirtual 39, 3) := by decide +kernel
theorem dX2_readOrders_14 : decode cX2_readOrders 14 = .ok (.aload_n 0, 1) := by decide +kernel
theorem dX2_readOrders_15 : decode cX2_readOrders 15 = .ok (.invokevirtual 42, 3) := by decide +kernel
theorem dX2_readOrders_18 : decode cX2_readOrders 18 = .ok (.istore_n 1, 1) := by decide +kernel
theorem dX2_readOrders_19 : decode cX2_readOrders 19 = .ok (.iload_n 1, 1) := by decide +kernel
theorem dX2_readOrders_20 : decode cX2_readOrders 20 = .ok (.iconst (-1), 1) := by decide +kernel
theorem dX2_readOrders_21 : decode cX2_readOrders 21 = .ok (.if_icmp .eq 5, 3) := by decide +kernel
theorem dX2_readOrders_24 : decode cX2_readOrders 24 = .ok (.iload_n 1, 1) := by decide +kernel
theorem dX2_readOrders_25 : decode cX2_readOrders 25 = .ok (.ireturn, 1) := by decide +kernel
theorem dX2_readOrders_26 : decode cX2_readOrders 26 = .ok (.aload_n 0, 1) := by decide +kernel
theorem dX2_readOrders_27 : decode cX2_readOrders 27 = .ok (.dup, 1) := by decide +kernel
theorem dX2_readOrders_28 : decode cX2_readOrders 28 = .ok (.getfield 23, 3) := by decide +kernel
theorem dX2_readOrders_31 : decode cX2_readOrders 31 = .ok (.iconst 1, 1) := by decide +kernel
theorem dX2_readOrders_32 : decode cX2_readOrders 32 = .ok (.iadd, 1) := by decide +kernel
theorem dX2_readOrders_33 : decode cX2_readOrders 33 = .ok (.putfield 23, 3) := by decide +kernel
theorem dX2_readOrders_36 : decode cX2_readOrders 36 = .ok (.aload_n 0, 1) := by decide +kernel
theorem dX2_readOrders_37 : decode cX2_readOrders 37 = .ok (.invokevirtual 39, 3) := by decide +kernel
theorem dX2_readOrders_40 : decode cX2_readOrders 40 = .ok (.aload_n 0, 1) := by decide +kernel
theorem dX2_readOrders_41 : decode cX2_readOrders 41 = .ok (.getfield 26, 3) := by decide +kernel
theorem dX2_readOrders_44 : decode cX2_readOrders 44 = .ok (.ifCond .eq 12, 3) := by decide +kernel
theorem dX2_readOrders_47 : decode cX2_readOrders 47 = .ok (.aload_n 0, 1) := by decide +kernel
theorem dX2_readOrders_48 : decode cX2_readOrders 48 = .ok (.getfield 23, 3) := by decide +kernel
theorem dX2_readOrders_51 : decode cX2_readOrders 51 = .ok (.bipush 30, 2) := by decide +kernel
theorem dX2_readOrders_53 : decode cX2_readOrders 53 = .ok (.if_icmp .lt (-39), 3) := by decide +kernel
theorem dX2_readOrders_56 : decode cX2_readOrders 56 = .ok (.iconst (-1), 1) := by decide +kernel
theorem dX2_readOrders_57 : decode cX2_readOrders 57 = .ok (.ireturn, 1) := by decide +kernel
theorem dX2_readOrder_0 : decode cX2_readOrder 0 = .ok (.aload_n 0, 1) := by decide +kernel
theorem dX2_readOrder_1 : decode cX2_readOrder 1 = .ok (.getfield 26, 3) := by decide +kernel
theorem dX2_readOrder_4 : decode cX2_readOrder 4 = .ok (.iconst 1, 1) := by decide +kernel
theorem dX2_readOrder_5 : decode cX2_readOrder 5 = .ok (.if_icmp .ne 10, 3) := by decide +kernel
theorem dX2_readOrder_8 : decode cX2_readOrder 8 = .ok (.aload_n 0, 1) := by decide +kernel
theorem dX2_readOrder_9 : decode cX2_readOrder 9 = .ok (.invokevirtual 46, 3) := by decide +kernel
theorem dX2_readOrder_12 : decode cX2_readOrder 12 = .ok (.goto 4, 3) := by decide +kernel
theorem dX2_readOrder_15 : decode cX2_readOrder 15 = .ok (.iconst (-1), 1) := by decide +kernel
theorem dX2_readOrder_16 : decode cX2_readOrder 16 = .ok (.istore_n 1, 1) := by decide +kernel
theorem dX2_readOrder_17 : decode cX2_readOrder 17 = .ok (.iload_n 1, 1) := by decide +kernel
theorem dX2_readOrder_18 : decode cX2_readOrder 18 = .ok (.iconst (-1), 1) := by decide +kernel
theorem dX2_readOrder_19 : decode cX2_readOrder 19 = .ok (.if_icmp .ne 8, 3) := by decide +kernel
theorem dX2_readOrder_22 : decode cX2_readOrder 22 = .ok (.aload_n 0, 1) := by decide +kernel
theorem dX2_readOrder_23 : decode cX2_readOrder 23 = .ok (.getfield 29, 3) := by decide +kernel
theorem dX2_readOrder_26 : decode cX2_readOrder 26 = .ok (.ireturn, 1) := by decide +kernel
theorem dX2_readOrder_27 : decode cX2_readOrder 27 = .ok (.aload_n 0, 1) := by decide +kernel
theorem dX2_readOrder_28 : decode cX2_readOrder 28 = .ok (.getfield 23, 3) := by decide +kernel
theorem dX2_readOrder_31 : decode cX2_readOrder 31 = .ok (.iconst 5, 1) := by decide +kernel
theorem dX2_readOrder_32 : decode cX2_readOrder 32 = .ok (.imul, 1) := by decide +kernel
theorem dX2_readOrder_33 : decode cX2_readOrder 33 = .ok (.istore_n 2, 1) := by decide +kernel
theorem dX2_readOrder_34 : decode cX2_readOrder 34 = .ok (.aload_n 0, 1) := by decide +kernel
theorem dX2_readOrder_35 : decode cX2_readOrder 35 = .ok (.getfield 19, 3) := by decide +kernel
theorem dX2_readOrder_38 : decode cX2_readOrder 38 = .ok (.iload_n 2, 1) := by decide +kernel
theorem dX2_readOrder_39 : decode cX2_readOrder 39 = .ok (.iload_n 1, 1) := by decide +kernel
theorem dX2_readOrder_40 : decode cX2_readOrder 40 = .ok (.iastore, 1) := by decide +kernel
theorem dX2_readOrder_41 : decode cX2_readOrder 41 = .ok (.iconst 0, 1) := by decide +kernel
theorem dX2_readOrder_42 : decode cX2_readOrder 42 = .ok (.istore_n 3, 1) := by decide +kernel
theorem dX2_readOrder_43 : decode cX2_readOrder 43 = .ok (.iload_n 3, 1) := by decide +kernel
theorem dX2_readOrder_44 : decode cX2_readOrder 44 = .ok (.getstatic 49, 3) := by decide +kernel
theorem dX2_readOrder_47 : decode cX2_readOrder 47 = .ok (.iload_n 1, 1) := by decide +kernel
theorem dX2_readOrder_48 : decode cX2_readOrder 48 = .ok (.iaload, 1) := by decide +kernel
theorem dX2_readOrder_49 : decode cX2_readOrder 49 = .ok (.if_icmp .ge 54, 3) := by decide +kernel
theorem dX2_readOrder_52 : decode cX2_readOrder 52 = .ok (.aload_n 0, 1) := by decide +kernel
theorem dX2_readOrder_53 : decode cX2_readOrder 53 = .ok (.invokevirtual 39, 3) := by decide +kernel
theorem dX2_readOrder_56 : decode cX2_readOrder 56 = .ok (.aload_n 0, 1) := by decide +kernel
theorem dX2_readOrder_57 : decode cX2_readOrder 57 = .ok (.getfield 26, 3) := by decide +kernel
theorem dX2_readOrder_60 : decode cX2_readOrder 60 = .ok (.iconst 2, 1) := by decide +kernel
theorem dX2_readOrder_61 : decode cX2_readOrder 61 = .ok (.if_icmp .eq 8, 3) := by decide +kernel
theorem dX2_readOrder_64 : decode cX2_readOrder 64 = .ok (.aload_n 0, 1) := by decide +kernel
theorem dX2_readOrder_65 : decode cX2_readOrder 65 = .ok (.getfield 29, 3) := by decide +kernel
theorem dX2_readOrder_68 : decode cX2_readOrder 68 = .ok (.ireturn, 1) := by decide +kernel
theorem dX2_readOrder_69 : decode cX2_readOrder 69 = .ok (.aload_n 0, 1) := by decide +kernel
theorem dX2_readOrder_70 : decode cX2_readOrder 70 = .ok (.getfield 19, 3) := by decide +kernel
theorem dX2_readOrder_73 : decode cX2_readOrder 73 = .ok (.iload_n 2, 1) := by decide +kernel
theorem dX2_readOrder_74 : decode cX2_readOrder 74 = .ok (.iconst 1, 1) := by decide +kernel
theorem dX2_readOrder_75 : decode cX2_readOrder 75 = .ok (.iadd, 1) := by decide +kernel
theorem dX2_readOrder_76 : decode cX2_readOrder 76 = .ok (.iload_n 3, 1) := by decide +kernel
theorem dX2_readOrder_77 : decode cX2_readOrder 77 = .ok (.iadd, 1) := by decide +kernel
theorem dX2_readOrder_78 : decode cX2_readOrder 78 = .ok (.aload_n 0, 1) := by decide +kernel
theorem dX2_readOrder_79 : decode cX2_readOrder 79 = .ok (.invokevirtual 52, 3) := by decide +kernel
theorem dX2_readOrder_82 : decode cX2_readOrder 82 = .ok (.iastore, 1) := by decide +kernel
theorem dX2_readOrder_83 : decode cX2_readOrder 83 = .ok (.aload_n 0, 1) := by decide +kernel
theorem dX2_readOrder_84 : decode cX2_readOrder 84 = .ok (.iload_n 2, 1) := by decide +kernel
theorem dX2_readOrder_85 : decode cX2_readOrder 85 = .ok (.iload_n 3, 1) := by decide +kernel
theorem dX2_readOrder_86 : decode cX2_readOrder 86 = .ok (.invokevirtual 55, 3) := by decide +kernel
theorem dX2_readOrder_89 : decode cX2_readOrder 89 = .ok (.ifCond .ne 8, 3) := by decide +kernel
theorem dX2_readOrder_92 : decode cX2_readOrder 92 = .ok (.aload_n 0, 1) := by decide +kernel
theorem dX2_readOrder_93 : decode cX2_readOrder 93 = .ok (.getfield 29, 3) := by decide +kernel
theorem dX2_readOrder_96 : decode cX2_readOrder 96 = .ok (.ireturn, 1) := by decide +kernel
theorem dX2_readOrder_97 : decode cX2_readOrder 97 = .ok (.iinc 3 1, 3) := by decide +kernel
theorem dX2_readOrder_100 : decode cX2_readOrder 100 = .ok (.goto (-57), 3) := by decide +kernel
theorem dX2_readOrder_103 : decode cX2_readOrder 103 = .ok (.aload_n 0, 1) := by decide +kernel
theorem dX2_readOrder_104 : decode cX2_readOrder 104 = .ok (.invokevirtual 39, 3) := by decide +kernel
theorem dX2_readOrder_107 : decode cX2_readOrder 107 = .ok (.aload_n 0, 1) := by decide +kernel
theorem dX2_readOrder_108 : decode cX2_readOrder 108 = .ok (.getfield 26, 3) := by decide +kernel
theorem dX2_readOrder_111 : decode cX2_readOrder 111 = .ok (.iconst 3, 1) := by decide +kernel
theorem dX2_readOrder_112 : decode cX2_readOrder 112 = .ok (.if_icmp .ne 21, 3) := by decide +kernel
theorem dX2_readOrder_115 : decode cX2_readOrder 115 = .ok (.aload_n 0, 1) := by decide +kernel
theorem dX2_readOrder_116 : decode cX2_readOrder 116 = .ok (.getfield 11, 3) := by decide +kernel
theorem dX2_readOrder_119 : decode cX2_readOrder 119 = .ok (.aload_n 0, 1) := by decide +kernel
theorem dX2_readOrder_120 : decode cX2_readOrder 120 = .ok (.getfield 29, 3) := by decide +kernel
theorem dX2_readOrder_123 : decode cX2_readOrder 123 = .ok (.baload, 1) := by decide +kernel
theorem dX2_readOrder_124 : decode cX2_readOrder 124 = .ok (.bipush 59, 2) := by decide +kernel
theorem dX2_readOrder_126 : decode cX2_readOrder 126 = .ok (.if_icmp .ne 7, 3) := by decide +kernel
theorem dX2_readOrder_129 : decode cX2_readOrder 129 = .ok (.iconst (-1), 1) := by decide +kernel
theorem dX2_readOrder_130 : decode cX2_readOrder 130 = .ok (.goto 7, 3) := by decide +kernel
theorem dX2_readOrder_133 : decode cX2_readOrder 133 = .ok (.aload_n 0, 1) := by decide +kernel
theorem dX2_readOrder_134 : decode cX2_readOrder 134 = .ok (.getfield 29, 3) := by decide +kernel
theorem dX2_readOrder_137 : decode cX2_readOrder 137 = .ok (.ireturn, 1) := by decide +kernel
theorem dX2_isAsTold_0 : decode cX2_isAsTold 0 = .ok (.aload_n 0, 1) := by decide +kernel
theorem dX2_isAsTold_1 : decode cX2_isAsTold 1 = .ok (.getfield 19, 3) := by decide +kernel
theorem dX2_isAsTold_4 : decode cX2_isAsTold 4 = .ok (.iload_n 1, 1) := by decide +kernel
theorem dX2_isAsTold_5 : decode cX2_isAsTold 5 = .ok (.iaload, 1) := by decide +kernel
theorem dX2_isAsTold_6 : decode cX2_isAsTold 6 = .ok (.istore_n 3, 1) := by decide +kernel
theorem dX2_isAsTold_7 : decode cX2_isAsTold 7 = .ok (.iload_n 3, 1) := by decide +kernel
theorem dX2_isAsTold_8 : decode cX2_isAsTold 8 = .ok (.iconst 4, 1) := by decide +kernel
theorem dX2_isAsTold_9 : decode cX2_isAsTold 9 = .ok (.imul, 1) := by decide +kernel
theorem dX2_isAsTold_10 : decode cX2_isAsTold 10 = .ok (.iload_n 2, 1) := by decide +kernel
theorem dX2_isAsTold_11 : decode cX2_isAsTold 11 = .ok (.iadd, 1) := by decide +kernel
theorem dX2_isAsTold_12 : decode cX2_isAsTold 12 = .ok (.istore 4, 2) := by decide +kernel
theorem dX2_isAsTold_14 : decode cX2_isAsTold 14 = .ok (.aload_n 0, 1) := by decide +kernel
theorem dX2_isAsTold_15 : decode cX2_isAsTold 15 = .ok (.getfield 19, 3) := by decide +kernel
theorem dX2_isAsTold_18 : decode cX2_isAsTold 18 = .ok (.iload_n 1, 1) := by decide +kernel
theorem dX2_isAsTold_19 : decode cX2_isAsTold 19 = .ok (.iconst 1, 1) := by decide +kernel
theorem dX2_isAsTold_20 : decode cX2_isAsTold 20 = .ok (.iadd, 1) := by decide +kernel
theorem dX2_isAsTold_21 : decode cX2_isAsTold 21 = .ok (.iload_n 2, 1) := by decide +kernel
theorem dX2_isAsTold_22 : decode cX2_isAsTold 22 = .ok (.iadd, 1) := by decide +kernel
theorem dX2_isAsTold_23 : decode cX2_isAsTold 23 = .ok (.iaload, 1) := by decide +kernel
theorem dX2_isAsTold_24 : decode cX2_isAsTold 24 = .ok (.getstatic 59, 3) := by decide +kernel
theorem dX2_isAsTold_27 : decode cX2_isAsTold 27 = .ok (.iload 4, 2) := by decide +kernel
theorem dX2_isAsTold_29 : decode cX2_isAsTold 29 = .ok (.iaload, 1) := by decide +kernel
theorem dX2_isAsTold_30 : decode cX2_isAsTold 30 = .ok (.getstatic 62, 3) := by decide +kernel
theorem dX2_isAsTold_33 : decode cX2_isAsTold 33 = .ok (.iload 4, 2) := by decide +kernel
theorem dX2_isAsTold_35 : decode cX2_isAsTold 35 = .ok (.iaload, 1) := by decide +kernel
theorem dX2_isAsTold_36 : decode cX2_isAsTold 36 = .ok (.invokestatic 65, 3) := by decide +kernel
theorem dX2_isAsTold_39 : decode cX2_isAsTold 39 = .ok (.ifCond .ne 5, 3) := by decide +kernel
theorem dX2_isAsTold_42 : decode cX2_isAsTold 42 = .ok (.iconst 0, 1) := by decide +kernel
theorem dX2_isAsTold_43 : decode cX2_isAsTold 43 = .ok (.ireturn, 1) := by decide +kernel
theorem dX2_isAsTold_44 : decode cX2_isAsTold 44 = .ok (.iload_n 3, 1) := by decide +kernel
theorem dX2_isAsTold_45 : decode cX2_isAsTold 45 = .ok (.iconst 2, 1) := by decide +kernel
theorem dX2_isAsTold_46 : decode cX2_isAsTold 46 = .ok (.if_icmp .ne 30, 3) := by decide +kernel
theorem dX2_isAsTold_49 : decode cX2_isAsTold 49 = .ok (.iload_n 2, 1) := by decide +kernel
theorem dX2_isAsTold_50 : decode cX2_isAsTold 50 = .ok (.iconst 3, 1) := by decide +kernel
theorem dX2_isAsTold_51 : decode cX2_isAsTold 51 = .ok (.if_icmp .ne 25, 3) := by decide +kernel
theorem dX2_isAsTold_54 : decode cX2_isAsTold 54 = .ok (.aload_n 0, 1) := by decide +kernel
theorem dX2_isAsTold_55 : decode cX2_isAsTold 55 = .ok (.getfield 19, 3) := by decide +kernel
theorem dX2_isAsTold_58 : decode cX2_isAsTold 58 = .ok (.iload_n 1, 1) := by decide +kernel
theorem dX2_isAsTold_59 : decode cX2_isAsTold 59 = .ok (.iconst 3, 1) := by decide +kernel
theorem dX2_isAsTold_60 : decode cX2_isAsTold 60 = .ok (.iadd, 1) := by decide +kernel
theorem dX2_isAsTold_61 : decode cX2_isAsTold 61 = .ok (.iaload, 1) := by decide +kernel
theorem dX2_isAsTold_62 : decode cX2_isAsTold 62 = .ok (.aload_n 0, 1) := by decide +kernel
theorem dX2_isAsTold_63 : decode cX2_isAsTold 63 = .ok (.getfield 19, 3) := by decide +kernel
theorem dX2_isAsTold_66 : decode cX2_isAsTold 66 = .ok (.iload_n 1, 1) := by decide +kernel
theorem dX2_isAsTold_67 : decode cX2_isAsTold 67 = .ok (.iconst 4, 1) := by decide +kernel
theorem dX2_isAsTold_68 : decode cX2_isAsTold 68 = .ok (.iadd, 1) := by decide +kernel
theorem dX2_isAsTold_69 : decode cX2_isAsTold 69 = .ok (.iaload, 1) := by decide +kernel
theorem dX2_isAsTold_70 : decode cX2_isAsTold 70 = .ok (.invokestatic 69, 3) := by decide +kernel
theorem dX2_isAsTold_73 : decode cX2_isAsTold 73 = .ok (.ifCond .eq 7, 3) := by decide +kernel
theorem dX2_isAsTold_76 : decode cX2_isAsTold 76 = .ok (.iconst 1, 1) := by decide +kernel
theorem dX2_isAsTold_77 : decode cX2_isAsTold 77 = .ok (.goto 4, 3) := by decide +kernel
theorem dX2_isAsTold_80 : decode cX2_isAsTold 80 = .ok (.iconst 0, 1) := by decide +kernel
theorem dX2_isAsTold_81 : decode cX2_isAsTold 81 = .ok (.ireturn, 1) := by decide +kernel
theorem dX2_readPiece_0 : decode cX2_readPiece 0 = .ok (.aload_n 0, 1) := by decide +kernel
theorem dX2_readPiece_1 : decode cX2_readPiece 1 = .ok (.aload_n 0, 1) := by decide +kernel
theorem dX2_readPiece_2 : decode cX2_readPiece 2 = .ok (.getfield 32, 3) := by decide +kernel
theorem dX2_readPiece_5 : decode cX2_readPiece 5 = .ok (.putfield 29, 3) := by decide +kernel
theorem dX2_readPiece_8 : decode cX2_readPiece 8 = .ok (.aload_n 0, 1) := by decide +kernel
theorem dX2_readPiece_9 : decode cX2_readPiece 9 = .ok (.getfield 29, 3) := by decide +kernel
theorem dX2_readPiece_12 : decode cX2_readPiece 12 = .ok (.aload_n 0, 1) := by decide +kernel
theorem dX2_readPiece_13 : decode cX2_readPiece 13 = .ok (.getfield 15, 3) := by decide +kernel
theorem dX2_readPiece_16 : decode cX2_readPiece 16 = .ok (.if_icmp .ge 30, 3) := by decide +kernel
theorem dX2_readPiece_19 : decode cX2_readPiece 19 = .ok (.aload_n 0, 1) := by decide +kernel
theorem dX2_readPiece_20 : decode cX2_readPiece 20 = .ok (.getfield 11, 3) := by decide +kernel
theorem dX2_readPiece_23 : decode cX2_readPiece 23 = .ok (.aload_n 0, 1) := by decide +kernel
theorem dX2_readPiece_24 : decode cX2_readPiece 24 = .ok (.getfield 29, 3) := by decide +kernel
theorem dX2_readPiece_27 : decode cX2_readPiece 27 = .ok (.baload, 1) := by decide +kernel
theorem dX2_readPiece_28 : decode cX2_readPiece 28 = .ok (.bipush 32, 2) := by decide +kernel
theorem dX2_readPiece_30 : decode cX2_readPiece 30 = .ok (.if_icmp .ne 16, 3) := by decide +kernel
theorem dX2_readPiece_33 : decode cX2_readPiece 33 = .ok (.aload_n 0, 1) := by decide +kernel
theorem dX2_readPiece_34 : decode cX2_readPiece 34 = .ok (.dup, 1) := by decide +kernel
theorem dX2_readPiece_35 : decode cX2_readPiece 35 = .ok (.getfield 29, 3) := by decide +kernel
theorem dX2_readPiece_38 : decode cX2_readPiece 38 = .ok (.iconst 1, 1) := by decide +kernel
theorem dX2_readPiece_39 : decode cX2_readPiece 39 = .ok (.iadd, 1) := by decide +kernel
theorem dX2_readPiece_40 : decode cX2_readPiece 40 = .ok (.putfield 29, 3) := by decide +kernel
theorem dX2_readPiece_43 : decode cX2_readPiece 43 = .ok (.goto (-35), 3) := by decide +kernel
theorem dX2_readPiece_46 : decode cX2_readPiece 46 = .ok (.aload_n 0, 1) := by decide +kernel
theorem dX2_readPiece_47 : decode cX2_readPiece 47 = .ok (.aload_n 0, 1) := by decide +kernel
theorem dX2_readPiece_48 : decode cX2_readPiece 48 = .ok (.getfield 29, 3) := by decide +kernel
theorem dX2_readPiece_51 : decode cX2_readPiece 51 = .ok (.putfield 32, 3) := by decide +kernel
theorem dX2_readPiece_54 : decode cX2_readPiece 54 = .ok (.aload_n 0, 1) := by decide +kernel
theorem dX2_readPiece_55 : decode cX2_readPiece 55 = .ok (.getfield 29, 3) := by decide +kernel
theorem dX2_readPiece_58 : decode cX2_readPiece 58 = .ok (.aload_n 0, 1) := by decide +kernel
theorem dX2_readPiece_59 : decode cX2_readPiece 59 = .ok (.getfield 15, 3) := by decide +kernel
theorem dX2_readPiece_62 : decode cX2_readPiece 62 = .ok (.if_icmp .lt 11, 3) := by decide +kernel
theorem dX2_readPiece_65 : decode cX2_readPiece 65 = .ok (.aload_n 0, 1) := by decide +kernel
theorem dX2_readPiece_66 : decode cX2_readPiece 66 = .ok (.iconst 0, 1) := by decide +kernel
theorem dX2_readPiece_67 : decode cX2_readPiece 67 = .ok (.putfield 26, 3) := by decide +kernel
theorem dX2_readPiece_70 : decode cX2_readPiece 70 = .ok (.goto 136, 3) := by decide +kernel
theorem dX2_readPiece_73 : decode cX2_readPiece 73 = .ok (.aload_n 0, 1) := by decide +kernel
theorem dX2_readPiece_74 : decode cX2_readPiece 74 = .ok (.getfield 11, 3) := by decide +kernel
theorem dX2_readPiece_77 : decode cX2_readPiece 77 = .ok (.aload_n 0, 1) := by decide +kernel
theorem dX2_readPiece_78 : decode cX2_readPiece 78 = .ok (.getfield 29, 3) := by decide +kernel
theorem dX2_readPiece_81 : decode cX2_readPiece 81 = .ok (.baload, 1) := by decide +kernel
theorem dX2_readPiece_82 : decode cX2_readPiece 82 = .ok (.invokestatic 72, 3) := by decide +kernel
theorem dX2_readPiece_85 : decode cX2_readPiece 85 = .ok (.ifCond .eq 47, 3) := by decide +kernel
theorem dX2_readPiece_88 : decode cX2_readPiece 88 = .ok (.aload_n 0, 1) := by decide +kernel
theorem dX2_readPiece_89 : decode cX2_readPiece 89 = .ok (.iconst 1, 1) := by decide +kernel
theorem dX2_readPiece_90 : decode cX2_readPiece 90 = .ok (.putfield 26, 3) := by decide +kernel
theorem dX2_readPiece_93 : decode cX2_readPiece 93 = .ok (.aload_n 0, 1) := by decide +kernel
theorem dX2_readPiece_94 : decode cX2_readPiece 94 = .ok (.getfield 32, 3) := by decide +kernel
theorem dX2_readPiece_97 : decode cX2_readPiece 97 = .ok (.aload_n 0, 1) := by decide +kernel
theorem dX2_readPiece_98 : decode cX2_readPiece 98 = .ok (.getfield 15, 3) := by decide +kernel
theorem dX2_readPiece_101 : decode cX2_readPiece 101 = .ok (.if_icmp .ge 105, 3) := by decide +kernel
theorem dX2_readPiece_104 : decode cX2_readPiece 104 = .ok (.aload_n 0, 1) := by decide +kernel
theorem dX2_readPiece_105 : decode cX2_readPiece 105 = .ok (.getfield 11, 3) := by decide +kernel
theorem dX2_readPiece_108 : decode cX2_readPiece 108 = .ok (.aload_n 0, 1) := by decide +kernel
theorem dX2_readPiece_109 : decode cX2_readPiece 109 = .ok (.getfield 32, 3) := by decide +kernel
theorem dX2_readPiece_112 : decode cX2_readPiece 112 = .ok (.baload, 1) := by decide +kernel
theorem dX2_readPiece_113 : decode cX2_readPiece 113 = .ok (.invokestatic 72, 3) := by decide +kernel
theorem dX2_readPiece_116 : decode cX2_readPiece 116 = .ok (.ifCond .eq 90, 3) := by decide +kernel
theorem dX2_readPiece_119 : decode cX2_readPiece 119 = .ok (.aload_n 0, 1) := by decide +kernel
theorem dX2_readPiece_120 : decode cX2_readPiece 120 = .ok (.dup, 1) := by decide +kernel
theorem dX2_readPiece_121 : decode cX2_readPiece 121 = .ok (.getfield 32, 3) := by decide +kernel
theorem dX2_readPiece_124 : decode cX2_readPiece 124 = .ok (.iconst 1, 1) := by decide +kernel
theorem dX2_readPiece_125 : decode cX2_readPiece 125 = .ok (.iadd, 1) := by decide +kernel
theorem dX2_readPiece_126 : decode cX2_readPiece 126 = .ok (.putfield 32, 3) := by decide +kernel
theorem dX2_readPiece_129 : decode cX2_readPiece 129 = .ok (.goto (-36), 3) := by decide +kernel
theorem dX2_readPiece_132 : decode cX2_readPiece 132 = .ok (.aload_n 0, 1) := by decide +kernel
theorem dX2_readPiece_133 : decode cX2_readPiece 133 = .ok (.getfield 11, 3) := by decide +kernel
theorem dX2_readPiece_136 : decode cX2_readPiece 136 = .ok (.aload_n 0, 1) := by decide +kernel
theorem dX2_readPiece_137 : decode cX2_readPiece 137 = .ok (.getfield 29, 3) := by decide +kernel
theorem dX2_readPiece_140 : decode cX2_readPiece 140 = .ok (.baload, 1) := by decide +kernel
theorem dX2_readPiece_141 : decode cX2_readPiece 141 = .ok (.invokestatic 76, 3) := by decide +kernel
theorem dX2_readPiece_144 : decode cX2_readPiece 144 = .ok (.ifCond .eq 47, 3) := by decide +kernel
theorem dX2_readPiece_147 : decode cX2_readPiece 147 = .ok (.aload_n 0, 1) := by decide +kernel
theorem dX2_readPiece_148 : decode cX2_readPiece 148 = .ok (.iconst 2, 1) := by decide +kernel
theorem dX2_readPiece_149 : decode cX2_readPiece 149 = .ok (.putfield 26, 3) := by decide +kernel
theorem dX2_readPiece_152 : decode cX2_readPiece 152 = .ok (.aload_n 0, 1) := by decide +kernel
theorem dX2_readPiece_153 : decode cX2_readPiece 153 = .ok (.getfield 32, 3) := by decide +kernel
theorem dX2_readPiece_156 : decode cX2_readPiece 156 = .ok (.aload_n 0, 1) := by decide +kernel
theorem dX2_readPiece_157 : decode cX2_readPiece 157 = .ok (.getfield 15, 3) := by decide +kernel
theorem dX2_readPiece_160 : decode cX2_readPiece 160 = .ok (.if_icmp .ge 46, 3) := by decide +kernel
theorem dX2_readPiece_163 : decode cX2_readPiece 163 = .ok (.aload_n 0, 1) := by decide +kernel
theorem dX2_readPiece_164 : decode cX2_readPiece 164 = .ok (.getfield 11, 3) := by decide +kernel
theorem dX2_readPiece_167 : decode cX2_readPiece 167 = .ok (.aload_n 0, 1) := by decide +kernel
theorem dX2_readPiece_168 : decode cX2_readPiece 168 = .ok (.getfield 32, 3) := by decide +kernel
theorem dX2_readPiece_171 : decode cX2_readPiece 171 = .ok (.baload, 1) := by decide +kernel
theorem dX2_readPiece_172 : decode cX2_readPiece 172 = .ok (.invokestatic 76, 3) := by decide +kernel
theorem dX2_readPiece_175 : decode cX2_readPiece 175 = .ok (.ifCond .eq 31, 3) := by decide +kernel
theorem dX2_readPiece_178 : decode cX2_readPiece 178 = .ok (.aload_n 0, 1) := by decide +kernel
theorem dX2_readPiece_179 : decode cX2_readPiece 179 = .ok (.dup, 1) := by decide +kernel
theorem dX2_readPiece_180 : decode cX2_readPiece 180 = .ok (.getfield 32, 3) := by decide +kernel
theorem dX2_readPiece_183 : decode cX2_readPiece 183 = .ok (.iconst 1, 1) := by decide +kernel
theorem dX2_readPiece_184 : decode cX2_readPiece 184 = .ok (.iadd, 1) := by decide +kernel
theorem dX2_readPiece_185 : decode cX2_readPiece 185 = .ok (.putfield 32, 3) := by decide +kernel
theorem dX2_readPiece_188 : decode cX2_readPiece 188 = .ok (.goto (-36), 3) := by decide +kernel
theorem dX2_readPiece_191 : decode cX2_readPiece 191 = .ok (.aload_n 0, 1) := by decide +kernel
theorem dX2_readPiece_192 : decode cX2_readPiece 192 = .ok (.iconst 3, 1) := by decide +kernel
theorem dX2_readPiece_193 : decode cX2_readPiece 193 = .ok (.putfield 26, 3) := by decide +kernel
theorem dX2_readPiece_196 : decode cX2_readPiece 196 = .ok (.aload_n 0, 1) := by decide +kernel
theorem dX2_readPiece_197 : decode cX2_readPiece 197 = .ok (.dup, 1) := by decide +kernel
theorem dX2_readPiece_198 : decode cX2_readPiece 198 = .ok (.getfield 32, 3) := by decide +kernel
theorem dX2_readPiece_201 : decode cX2_readPiece 201 = .ok (.iconst 1, 1) := by decide +kernel
theorem dX2_readPiece_202 : decode cX2_readPiece 202 = .ok (.iadd, 1) := by decide +kernel
theorem dX2_readPiece_203 : decode cX2_readPiece 203 = .ok (.putfield 32, 3) := by decide +kernel
theorem dX2_readPiece_206 : decode cX2_readPiece 206 = .ok (.return_, 1) := by decide +kernel
theorem dX2_isLetter_0 : decode cX2_isLetter 0 = .ok (.iload_n 0, 1) := by decide +kernel
theorem dX2_isLetter_1 : decode cX2_isLetter 1 = .ok (.bipush 97, 2) := by decide +kernel
theorem dX2_isLetter_3 : decode cX2_isLetter 3 = .ok (.bipush 122, 2) := by decide +kernel
theorem dX2_isLetter_5 : decode cX2_isLetter 5 = .ok (.invokestatic 65, 3) := by decide +kernel
theorem dX2_isLetter_8 : decode cX2_isLetter 8 = .ok (.ireturn, 1) := by decide +kernel
theorem dX2_isFigure_0 : decode cX2_isFigure 0 = .ok (.iload_n 0, 1) := by decide +kernel
theorem dX2_isFigure_1 : decode cX2_isFigure 1 = .ok (.bipush 48, 2) := by decide +kernel
theorem dX2_isFigure_3 : decode cX2_isFigure 3 = .ok (.bipush 57, 2) := by decide +kernel
theorem dX2_isFigure_5 : decode cX2_isFigure 5 = .ok (.invokestatic 65, 3) := by decide +kernel
theorem dX2_isFigure_8 : decode cX2_isFigure 8 = .ok (.ireturn, 1) := by decide +kernel
theorem dX2_orderHere_0 : decode cX2_orderHere 0 = .ok (.iconst 0, 1) := by decide +kernel
theorem dX2_orderHere_1 : decode cX2_orderHere 1 = .ok (.istore_n 1, 1) := by decide +kernel
theorem dX2_orderHere_2 : decode cX2_orderHere 2 = .ok (.iload_n 1, 1) := by decide +kernel
theorem dX2_orderHere_3 : decode cX2_orderHere 3 = .ok (.iconst 5, 1) := by decide +kernel
theorem dX2_orderHere_4 : decode cX2_orderHere 4 = .ok (.if_icmp .ge 22, 3) := by decide +kernel
theorem dX2_orderHere_7 : decode cX2_orderHere 7 = .ok (.aload_n 0, 1) := by decide +kernel
theorem dX2_orderHere_8 : decode cX2_orderHere 8 = .ok (.iload_n 1, 1) := by decide +kernel
theorem dX2_orderHere_9 : decode cX2_orderHere 9 = .ok (.invokestatic 79, 3) := by decide +kernel
theorem dX2_orderHere_12 : decode cX2_orderHere 12 = .ok (.invokevirtual 83, 3) := by decide +kernel
theorem dX2_orderHere_15 : decode cX2_orderHere 15 = .ok (.ifCond .eq 5, 3) := by decide +kernel
theorem dX2_orderHere_18 : decode cX2_orderHere 18 = .ok (.iload_n 1, 1) := by decide +kernel
theorem dX2_orderHere_19 : decode cX2_orderHere 19 = .ok (.ireturn, 1) := by decide +kernel
theorem dX2_orderHere_20 : decode cX2_orderHere 20 = .ok (.iinc 1 1, 3) := by decide +kernel
theorem dX2_orderHere_23 : decode cX2_orderHere 23 = .ok (.goto (-21), 3) := by decide +kernel
theorem dX2_orderHere_26 : decode cX2_orderHere 26 = .ok (.iconst (-1), 1) := by decide +kernel
theorem dX2_orderHere_27 : decode cX2_orderHere 27 = .ok (.ireturn, 1) := by decide +kernel
theorem dX2_wordOf_0 : decode cX2_wordOf 0 = .ok (.iload_n 0, 1) := by decide +kernel
theorem dX2_wordOf_1 : decode cX2_wordOf 1 = .ok (.tableswitch 43 0 3 #[31, 34, 37, 40], 31) := by decide +kernel
theorem dX2_wordOf_32 : decode cX2_wordOf 32 = .ok (.ldc 87, 2) := by decide +kernel
theorem dX2_wordOf_34 : decode cX2_wordOf 34 = .ok (.areturn, 1) := by decide +kernel
theorem dX2_wordOf_35 : decode cX2_wordOf 35 = .ok (.ldc 89, 2) := by decide +kernel
theorem dX2_wordOf_37 : decode cX2_wordOf 37 = .ok (.areturn, 1) := by decide +kernel
theorem dX2_wordOf_38 : decode cX2_wordOf 38 = .ok (.ldc 91, 2) := by decide +kernel
theorem dX2_wordOf_40 : decode cX2_wordOf 40 = .ok (.areturn, 1) := by decide +kernel
theorem dX2_wordOf_41 : decode cX2_wordOf 41 = .ok (.ldc 93, 2) := by decide +kernel
theorem dX2_wordOf_43 : decode cX2_wordOf 43 = .ok (.areturn, 1) := by decide +kernel
theorem dX2_wordOf_44 : decode cX2_wordOf 44 = .ok (.ldc 95, 2) := by decide +kernel
theorem dX2_wordOf_46 : decode cX2_wordOf 46 = .ok (.areturn, 1) := by decide +kernel
theorem dX2_isHere_0 : decode cX2_isHere 0 = .ok (.aload_n 1, 1) := by decide +kernel
theorem dX2_isHere_1 : decode cX2_isHere 1 = .ok (.invokevirtual 97, 3) := by decide +kernel
theorem dX2_isHere_4 : decode cX2_isHere 4 = .ok (.aload_n 0, 1) := by decide +kernel
theorem dX2_isHere_5 : decode cX2_isHere 5 = .ok (.getfield 32, 3) := by decide +kernel
theorem dX2_isHere_8 : decode cX2_isHere 8 = .ok (.aload_n 0, 1) := by decide +kernel
theorem dX2_isHere_9 : decode cX2_isHere 9 = .ok (.getfield 29, 3) := by decide +kernel
theorem dX2_isHere_12 : decode cX2_isHere 12 = .ok (.isub, 1) := by decide +kernel
theorem dX2_isHere_13 : decode cX2_isHere 13 = .ok (.if_icmp .eq 5, 3) := by decide +kernel
theorem dX2_isHere_16 : decode cX2_isHere 16 = .ok (.iconst 0, 1) := by decide +kernel
theorem dX2_isHere_17 : decode cX2_isHere 17 = .ok (.ireturn, 1) := by decide +kernel
theorem dX2_isHere_18 : decode cX2_isHere 18 = .ok (.iconst 0, 1) := by decide +kernel
theorem dX2_isHere_19 : decode cX2_isHere 19 = .ok (.istore_n 2, 1) := by decide +kernel
theorem dX2_isHere_20 : decode cX2_isHere 20 = .ok (.iload_n 2, 1) := by decide +kernel
theorem dX2_isHere_21 : decode cX2_isHere 21 = .ok (.aload_n 1, 1) := by decide +kernel
theorem dX2_isHere_22 : decode cX2_isHere 22 = .ok (.invokevirtual 97, 3) := by decide +kernel
theorem dX2_isHere_25 : decode cX2_isHere 25 = .ok (.if_icmp .ge 30, 3) := by decide +kernel
theorem dX2_isHere_28 : decode cX2_isHere 28 = .ok (.aload_n 1, 1) := by decide +kernel
theorem dX2_isHere_29 : decode cX2_isHere 29 = .ok (.iload_n 2, 1) := by decide +kernel
theorem dX2_isHere_30 : decode cX2_isHere 30 = .ok (.invokevirtual 101, 3) := by decide +kernel
theorem dX2_isHere_33 : decode cX2_isHere 33 = .ok (.aload_n 0, 1) := by decide +kernel
theorem dX2_isHere_34 : decode cX2_isHere 34 = .ok (.getfield 11, 3) := by decide +kernel
theorem dX2_isHere_37 : decode cX2_isHere 37 = .ok (.aload_n 0, 1) := by decide +kernel
theorem dX2_isHere_38 : decode cX2_isHere 38 = .ok (.getfield 29, 3) := by decide +kernel
theorem dX2_isHere_41 : decode cX2_isHere 41 = .ok (.iload_n 2, 1) := by decide +kernel
theorem dX2_isHere_42 : decode cX2_isHere 42 = .ok (.iadd, 1) := by decide +kernel
theorem dX2_isHere_43 : decode cX2_isHere 43 = .ok (.baload, 1) := by decide +kernel
theorem dX2_isHere_44 : decode cX2_isHere 44 = .ok (.if_icmp .eq 5, 3) := by decide +kernel
theorem dX2_isHere_47 : decode cX2_isHere 47 = .ok (.iconst 0, 1) := by decide +kernel
theorem dX2_isHere_48 : decode cX2_isHere 48 = .ok (.ireturn, 1) := by decide +kernel
theorem dX2_isHere_49 : decode cX2_isHere 49 = .ok (.iinc 2 1, 3) := by decide +kernel
theorem dX2_isHere_52 : decode cX2_isHere 52 = .ok (.goto (-32), 3) := by decide +kernel
theorem dX2_isHere_55 : decode cX2_isHere 55 = .ok (.iconst 1, 1) := by decide +kernel
theorem dX2_isHere_56 : decode cX2_isHere 56 = .ok (.ireturn, 1) := by decide +kernel
theorem dX2_numberHere_0 : decode cX2_numberHere 0 = .ok (.aload_n 0, 1) := by decide +kernel
theorem dX2_numberHere_1 : decode cX2_numberHere 1 = .ok (.getfield 32, 3) := by decide +kernel
theorem dX2_numberHere_4 : decode cX2_numberHere 4 = .ok (.aload_n 0, 1) := by decide +kernel
theorem dX2_numberHere_5 : decode cX2_numberHere 5 = .ok (.getfield 29, 3) := by decide +kernel
theorem dX2_numberHere_8 : decode cX2_numberHere 8 = .ok (.isub, 1) := by decide +kernel
theorem dX2_numberHere_9 : decode cX2_numberHere 9 = .ok (.iconst 2, 1) := by decide +kernel
theorem dX2_numberHere_10 : decode cX2_numberHere 10 = .ok (.if_icmp .le 5, 3) := by decide +kernel
theorem dX2_numberHere_13 : decode cX2_numberHere 13 = .ok (.iconst (-1), 1) := by decide +kernel
theorem dX2_numberHere_14 : decode cX2_numberHere 14 = .ok (.ireturn, 1) := by decide +kernel
theorem dX2_numberHere_15 : decode cX2_numberHere 15 = .ok (.iconst 0, 1) := by decide +kernel
theorem dX2_numberHere_16 : decode cX2_numberHere 16 = .ok (.istore_n 1, 1) := by decide +kernel
theorem dX2_numberHere_17 : decode cX2_numberHere 17 = .ok (.aload_n 0, 1) := by decide +kernel
theorem dX2_numberHere_18 : decode cX2_numberHere 18 = .ok (.getfield 29, 3) := by decide +kernel
theorem dX2_numberHere_21 : decode cX2_numberHere 21 = .ok (.istore_n 2, 1) := by decide +kernel
theorem dX2_numberHere_22 : decode cX2_numberHere 22 = .ok (.iload_n 2, 1) := by decide +kernel
theorem dX2_numberHere_23 : decode cX2_numberHere 23 = .ok (.aload_n 0, 1) := by decide +kernel
theorem dX2_numberHere_24 : decode cX2_numberHere 24 = .ok (.getfield 32, 3) := by decide +kernel
theorem dX2_numberHere_27 : decode cX2_numberHere 27 = .ok (.if_icmp .ge 24, 3) := by decide +kernel
theorem dX2_numberHere_30 : decode cX2_numberHere 30 = .ok (.bipush 10, 2) := by decide +kernel
theorem dX2_numberHere_32 : decode cX2_numberHere 32 = .ok (.iload_n 1, 1) := by decide +kernel
theorem dX2_numberHere_33 : decode cX2_numberHere 33 = .ok (.imul, 1) := by decide +kernel
theorem dX2_numberHere_34 : decode cX2_numberHere 34 = .ok (.aload_n 0, 1) := by decide +kernel
theorem dX2_numberHere_35 : decode cX2_numberHere 35 = .ok (.getfield 11, 3) := by decide +kernel
theorem dX2_numberHere_38 : decode cX2_numberHere 38 = .ok (.iload_n 2, 1) := by decide +kernel
theorem dX2_numberHere_39 : decode cX2_numberHere 39 = .ok (.baload, 1) := by decide +kernel
theorem dX2_numberHere_40 : decode cX2_numberHere 40 = .ok (.iadd, 1) := by decide +kernel
theorem dX2_numberHere_41 : decode cX2_numberHere 41 = .ok (.bipush 48, 2) := by decide +kernel
theorem dX2_numberHere_43 : decode cX2_numberHere 43 = .ok (.isub, 1) := by decide +kernel
theorem dX2_numberHere_44 : decode cX2_numberHere 44 = .ok (.istore_n 1, 1) := by decide +kernel
theorem dX2_numberHere_45 : decode cX2_numberHere 45 = .ok (.iinc 2 1, 3) := by decide +kernel
theorem dX2_numberHere_48 : decode cX2_numberHere 48 = .ok (.goto (-26), 3) := by decide +kernel
theorem dX2_numberHere_51 : decode cX2_numberHere 51 = .ok (.iload_n 1, 1) := by decide +kernel
theorem dX2_numberHere_52 : decode cX2_numberHere 52 = .ok (.ireturn, 1) := by decide +kernel
theorem dX2_carryOut_0 : decode cX2_carryOut 0 = .ok (.iload_n 1, 1) := by decide +kernel
theorem dX2_carryOut_1 : decode cX2_carryOut 1 = .ok (.iconst 5, 1) := by decide +kernel
theorem dX2_carryOut_2 : decode cX2_carryOut 2 = .ok (.imul, 1) := by decide +kernel
theorem dX2_carryOut_3 : decode cX2_carryOut 3 = .ok (.istore_n 3, 1) := by decide +kernel
theorem dX2_carryOut_4 : decode cX2_carryOut 4 = .ok (.aload_n 0, 1) := by decide +kernel
theorem dX2_carryOut_5 : decode cX2_carryOut 5 = .ok (.getfield 19, 3) := by decide +kernel
theorem dX2_carryOut_8 : decode cX2_carryOut 8 = .ok (.iload_n 3, 1) := by decide +kernel
theorem dX2_carryOut_9 : decode cX2_carryOut 9 = .ok (.iconst 1, 1) := by decide +kernel
theorem dX2_carryOut_10 : decode cX2_carryOut 10 = .ok (.iadd, 1) := by decide +kernel
theorem dX2_carryOut_11 : decode cX2_carryOut 11 = .ok (.iaload, 1) := by decide +kernel
theorem dX2_carryOut_12 : decode cX2_carryOut 12 = .ok (.istore 4, 2) := by decide +kernel
theorem dX2_carryOut_14 : decode cX2_carryOut 14 = .ok (.aload_n 0, 1) := by decide +kernel
theorem dX2_carryOut_15 : decode cX2_carryOut 15 = .ok (.getfield 19, 3) := by decide +kernel
theorem dX2_carryOut_18 : decode cX2_carryOut 18 = .ok (.iload_n 3, 1) := by decide +kernel
theorem dX2_carryOut_19 : decode cX2_carryOut 19 = .ok (.iconst 2, 1) := by decide +kernel
theorem dX2_carryOut_20 : decode cX2_carryOut 20 = .ok (.iadd, 1) := by decide +kernel
theorem dX2_carryOut_21 : decode cX2_carryOut 21 = .ok (.iaload, 1) := by decide +kernel
theorem dX2_carryOut_22 : decode cX2_carryOut 22 = .ok (.istore 5, 2) := by decide +kernel
theorem dX2_carryOut_24 : decode cX2_carryOut 24 = .ok (.aload_n 0, 1) := by decide +kernel
theorem dX2_carryOut_25 : decode cX2_carryOut 25 = .ok (.getfield 19, 3) := by decide +kernel
theorem dX2_carryOut_28 : decode cX2_carryOut 28 = .ok (.iload_n 3, 1) := by decide +kernel
theorem dX2_carryOut_29 : decode cX2_carryOut 29 = .ok (.iaload, 1) := by decide +kernel
theorem dX2_carryOut_30 : decode cX2_carryOut 30 = .ok (.tableswitch 100 0 3 #[30, 41, 52, 80], 30) := by decide +kernel
theorem dX2_carryOut_60 : decode cX2_carryOut 60 = .ok (.aload_n 2, 1) := by decide +kernel
theorem dX2_carryOut_61 : decode cX2_carryOut 61 = .ok (.iload 4, 2) := by decide +kernel
theorem dX2_carryOut_63 : decode cX2_carryOut 63 = .ok (.iconst 1, 1) := by decide +kernel
theorem dX2_carryOut_64 : decode cX2_carryOut 64 = .ok (.invokevirtual 105, 3) := by decide +kernel
theorem dX2_carryOut_67 : decode cX2_carryOut 67 = .ok (.pop, 1) := by decide +kernel
theorem dX2_carryOut_68 : decode cX2_carryOut 68 = .ok (.goto 71, 3) := by decide +kernel
theorem dX2_carryOut_71 : decode cX2_carryOut 71 = .ok (.aload_n 2, 1) := by decide +kernel
theorem dX2_carryOut_72 : decode cX2_carryOut 72 = .ok (.iload 4, 2) := by decide +kernel
theorem dX2_carryOut_74 : decode cX2_carryOut 74 = .ok (.iconst 0, 1) := by decide +kernel
theorem dX2_carryOut_75 : decode cX2_carryOut 75 = .ok (.invokevirtual 105, 3) := by decide +kernel
theorem dX2_carryOut_78 : decode cX2_carryOut 78 = .ok (.pop, 1) := by decide +kernel
theorem dX2_carryOut_79 : decode cX2_carryOut 79 = .ok (.goto 60, 3) := by decide +kernel
theorem dX2_carryOut_82 : decode cX2_carryOut 82 = .ok (.aload_n 2, 1) := by decide +kernel
theorem dX2_carryOut_83 : decode cX2_carryOut 83 = .ok (.iload 4, 2) := by decide +kernel
theorem dX2_carryOut_85 : decode cX2_carryOut 85 = .ok (.iload 5, 2) := by decide +kernel
theorem dX2_carryOut_87 : decode cX2_carryOut 87 = .ok (.aload_n 0, 1) := by decide +kernel
theorem dX2_carryOut_88 : decode cX2_carryOut 88 = .ok (.getfield 19, 3) := by decide +kernel
theorem dX2_carryOut_91 : decode cX2_carryOut 91 = .ok (.iload_n 3, 1) := by decide +kernel
theorem dX2_carryOut_92 : decode cX2_carryOut 92 = .ok (.iconst 3, 1) := by decide +kernel
theorem dX2_carryOut_93 : decode cX2_carryOut 93 = .ok (.iadd, 1) := by decide +kernel
theorem dX2_carryOut_94 : decode cX2_carryOut 94 = .ok (.iaload, 1) := by decide +kernel
theorem dX2_carryOut_95 : decode cX2_carryOut 95 = .ok (.aload_n 0, 1) := by decide +kernel
theorem dX2_carryOut_96 : decode cX2_carryOut 96 = .ok (.getfield 19, 3) := by decide +kernel
theorem dX2_carryOut_99 : decode cX2_carryOut 99 = .ok (.iload_n 3, 1) := by decide +kernel
theorem dX2_carryOut_100 : decode cX2_carryOut 100 = .ok (.iconst 4, 1) := by decide +kernel
theorem dX2_carryOut_101 : decode cX2_carryOut 101 = .ok (.iadd, 1) := by decide +kernel
theorem dX2_carryOut_102 : decode cX2_carryOut 102 = .ok (.iaload, 1) := by decide +kernel
theorem dX2_carryOut_103 : decode cX2_carryOut 103 = .ok (.invokevirtual 111, 3) := by decide +kernel
theorem dX2_carryOut_106 : decode cX2_carryOut 106 = .ok (.pop, 1) := by decide +kernel
theorem dX2_carryOut_107 : decode cX2_carryOut 107 = .ok (.goto 32, 3) := by decide +kernel
theorem dX2_carryOut_110 : decode cX2_carryOut 110 = .ok (.aload_n 2, 1) := by decide +kernel
theorem dX2_carryOut_111 : decode cX2_carryOut 111 = .ok (.iload 4, 2) := by decide +kernel
theorem dX2_carryOut_113 : decode cX2_carryOut 113 = .ok (.iload 5, 2) := by decide +kernel
theorem dX2_carryOut_115 : decode cX2_carryOut 115 = .ok (.aload_n 0, 1) := by decide +kernel
theorem dX2_carryOut_116 : decode cX2_carryOut 116 = .ok (.getfield 19, 3) := by decide +kernel
theorem dX2_carryOut_119 : decode cX2_carryOut 119 = .ok (.iload_n 3, 1) := by decide +kernel
theorem dX2_carryOut_120 : decode cX2_carryOut 120 = .ok (.iconst 3, 1) := by decide +kernel
theorem dX2_carryOut_121 : decode cX2_carryOut 121 = .ok (.iadd, 1) := by decide +kernel
theorem dX2_carryOut_122 : decode cX2_carryOut 122 = .ok (.iaload, 1) := by decide +kernel
theorem dX2_carryOut_123 : decode cX2_carryOut 123 = .ok (.invokevirtual 115, 3) := by decide +kernel
theorem dX2_carryOut_126 : decode cX2_carryOut 126 = .ok (.pop, 1) := by decide +kernel
theorem dX2_carryOut_127 : decode cX2_carryOut 127 = .ok (.goto 12, 3) := by decide +kernel
theorem dX2_carryOut_130 : decode cX2_carryOut 130 = .ok (.aload_n 2, 1) := by decide +kernel
theorem dX2_carryOut_131 : decode cX2_carryOut 131 = .ok (.iload 4, 2) := by decide +kernel
theorem dX2_carryOut_133 : decode cX2_carryOut 133 = .ok (.iload 5, 2) := by decide +kernel
theorem dX2_carryOut_135 : decode cX2_carryOut 135 = .ok (.invokevirtual 119, 3) := by decide +kernel
theorem dX2_carryOut_138 : decode cX2_carryOut 138 = .ok (.pop, 1) := by decide +kernel
theorem dX2_carryOut_139 : decode cX2_carryOut 139 = .ok (.return_, 1) := by decide +kernel
theorem dX3_init_0 : decode cX3_init 0 = .ok (.aload_n 0, 1) := by decide +kernel
theorem dX3_init_1 : decode cX3_init 1 = .ok (.invokespecial 3, 3) := by decide +kernel
theorem dX3_init_4 : decode cX3_init 4 = .ok (.aload_n 0, 1) := by decide +kernel
theorem dX3_init_5 : decode cX3_init 5 = .ok (.bipush 24, 2) := by decide +kernel
theorem dX3_init_7 : decode cX3_init 7 = .ok (.newarray .int, 2) := by decide +kernel
theorem dX3_init_9 : decode cX3_init 9 = .ok (.putfield 9, 3) := by decide +kernel
theorem dX3_init_12 : decode cX3_init 12 = .ok (.aload_n 0, 1) := by decide +kernel
theorem dX3_init_13 : decode cX3_init 13 = .ok (.bipush 24, 2) := by decide +kernel
theorem dX3_init_15 : decode cX3_init 15 = .ok (.newarray .int, 2) := by decide +kernel
theorem dX3_init_17 : decode cX3_init 17 = .ok (.putfield 15, 3) := by decide +kernel
theorem dX3_init_20 : decode cX3_init 20 = .ok (.aload_n 0, 1) := by decide +kernel
theorem dX3_init_21 : decode cX3_init 21 = .ok (.bipush 24, 2) := by decide +kernel
theorem dX3_init_23 : decode cX3_init 23 = .ok (.newarray .int, 2) := by decide +kernel
theorem dX3_init_25 : decode cX3_init 25 = .ok (.putfield 18, 3) := by decide +kernel
theorem dX3_init_28 : decode cX3_init 28 = .ok (.aload_n 0, 1) := by decide +kernel
theorem dX3_init_29 : decode cX3_init 29 = .ok (.bipush 24, 2) := by decide +kernel
theorem dX3_init_31 : decode cX3_init 31 = .ok (.newarray .int, 2) := by decide +kernel
theorem dX3_init_33 : decode cX3_init 33 = .ok (.putfield 21, 3) := by decide +kernel
theorem dX3_init_36 : decode cX3_init 36 = .ok (.aload_n 0, 1) := by decide +kernel
theorem dX3_init_37 : decode cX3_init 37 = .ok (.bipush 24, 2) := by decide +kernel
theorem dX3_init_39 : decode cX3_init 39 = .ok (.newarray .boolean, 2) := by decide +kernel
theorem dX3_init_41 : decode cX3_init 41 = .ok (.putfield 24, 3) := by decide +kernel
theorem dX3_init_44 : decode cX3_init 44 = .ok (.aload_n 0, 1) := by decide +kernel
theorem dX3_init_45 : decode cX3_init 45 = .ok (.iconst 0, 1) := by decide +kernel
theorem dX3_init_46 : decode cX3_init 46 = .ok (.putfield 28, 3) := by decide +kernel
theorem dX3_init_49 : decode cX3_init 49 = .ok (.return_, 1) := by decide +kernel
theorem dX3_sortBlocks_0 : decode cX3_sortBlocks 0 = .ok (.aload_n 0, 1) := by decide +kernel
theorem dX3_sortBlocks_1 : decode cX3_sortBlocks 1 = .ok (.iconst 0, 1) := by decide +kernel
theorem dX3_sortBlocks_2 : decode cX3_sortBlocks 2 = .ok (.putfield 28, 3) := by decide +kernel
theorem dX3_sortBlocks_5 : decode cX3_sortBlocks 5 = .ok (.iconst 0, 1) := by decide +kernel
theorem dX3_sortBlocks_6 : decode cX3_sortBlocks 6 = .ok (.istore_n 3, 1) := by decide +kernel
theorem dX3_sortBlocks_7 : decode cX3_sortBlocks 7 = .ok (.iload_n 3, 1) := by decide +kernel
theorem dX3_sortBlocks_8 : decode cX3_sortBlocks 8 = .ok (.bipush 24, 2) := by decide +kernel
theorem dX3_sortBlocks_10 : decode cX3_sortBlocks 10 = .ok (.if_icmp .ge 68, 3) := by decide +kernel
theorem dX3_sortBlocks_13 : decode cX3_sortBlocks 13 = .ok (.aload_n 0, 1) := by decide +kernel
theorem dX3_sortBlocks_14 : decode cX3_sortBlocks 14 = .ok (.getfield 9, 3) := by decide +kernel
theorem dX3_sortBlocks_17 : decode cX3_sortBlocks 17 = .ok (.iload_n 3, 1) := by decide +kernel
theorem dX3_sortBlocks_18 : decode cX3_sortBlocks 18 = .ok (.aload_n 1, 1) := by decide +kernel
theorem dX3_sortBlocks_19 : decode cX3_sortBlocks 19 = .ok (.iload_n 2, 1) := by decide +kernel
theorem dX3_sortBlocks_20 : decode cX3_sortBlocks 20 = .ok (.iload_n 3, 1) := by decide +kernel
theorem dX3_sortBlocks_21 : decode cX3_sortBlocks 21 = .ok (.invokestatic 32, 3) := by decide +kernel
theorem dX3_sortBlocks_24 : decode cX3_sortBlocks 24 = .ok (.iastore, 1) := by decide +kernel
theorem dX3_sortBlocks_25 : decode cX3_sortBlocks 25 = .ok (.aload_n 0, 1) := by decide +kernel
theorem dX3_sortBlocks_26 : decode cX3_sortBlocks 26 = .ok (.aload_n 0, 1) := by decide +kernel
theorem dX3_sortBlocks_27 : decode cX3_sortBlocks 27 = .ok (.getfield 9, 3) := by decide +kernel
theorem dX3_sortBlocks_30 : decode cX3_sortBlocks 30 = .ok (.iload_n 3, 1) := by decide +kernel
theorem dX3_sortBlocks_31 : decode cX3_sortBlocks 31 = .ok (.iaload, 1) := by decide +kernel
theorem dX3_sortBlocks_32 : decode cX3_sortBlocks 32 = .ok (.invokevirtual 36, 3) := by decide +kernel
theorem dX3_sortBlocks_35 : decode cX3_sortBlocks 35 = .ok (.istore 4, 2) := by decide +kernel
theorem dX3_sortBlocks_37 : decode cX3_sortBlocks 37 = .ok (.iload 4, 2) := by decide +kernel
theorem dX3_sortBlocks_39 : decode cX3_sortBlocks 39 = .ok (.aload_n 0, 1) := by decide +kernel
theorem dX3_sortBlocks_40 : decode cX3_sortBlocks 40 = .ok (.getfield 28, 3) := by decide +kernel
theorem dX3_sortBlocks_43 : decode cX3_sortBlocks 43 = .ok (.if_icmp .ne 21, 3) := by decide +kernel
theorem dX3_sortBlocks_46 : decode cX3_sortBlocks 46 = .ok (.aload_n 0, 1) := by decide +kernel
theorem dX3_sortBlocks_47 : decode cX3_sortBlocks 47 = .ok (.getfield 18, 3) := by decide +kernel
theorem dX3_sortBlocks_50 : decode cX3_sortBlocks 50 = .ok (.iload 4, 2) := by decide +kernel
theorem dX3_sortBlocks_52 : decode cX3_sortBlocks 52 = .ok (.iload_n 3, 1) := by decide +kernel
theorem dX3_sortBlocks_53 : decode cX3_sortBlocks 53 = .ok (.iastore, 1) := by decide +kernel
theorem dX3_sortBlocks_54 : decode cX3_sortBlocks 54 = .ok (.aload_n 0, 1) := by decide +kernel
theorem dX3_sortBlocks_55 : decode cX3_sortBlocks 55 = .ok (.dup, 1) := by decide +kernel
theorem dX3_sortBlocks_56 : decode cX3_sortBlocks 56 = .ok (.getfield 28, 3) := by decide +kernel
theorem dX3_sortBlocks_59 : decode cX3_sortBlocks 59 = .ok (.iconst 1, 1) := by decide +kernel
theorem dX3_sortBlocks_60 : decode cX3_sortBlocks 60 = .ok (.iadd, 1) := by decide +kernel
theorem dX3_sortBlocks_61 : decode cX3_sortBlocks 61 = .ok (.putfield 28, 3) := by decide +kernel
theorem dX3_sortBlocks_64 : decode cX3_sortBlocks 64 = .ok (.aload_n 0, 1) := by decide +kernel
theorem dX3_sortBlocks_65 : decode cX3_sortBlocks 65 = .ok (.getfield 15, 3) := by decide +kernel
theorem dX3_sortBlocks_68 : decode cX3_sortBlocks 68 = .ok (.iload_n 3, 1) := by decide +kernel
theorem dX3_sortBlocks_69 : decode cX3_sortBlocks 69 = .ok (.iload 4, 2) := by decide +kernel
theorem dX3_sortBlocks_71 : decode cX3_sortBlocks 71 = .ok (.iastore, 1) := by decide +kernel
theorem dX3_sortBlocks_72 : decode cX3_sortBlocks 72 = .ok (.iinc 3 1, 3) := by decide +kernel
theorem dX3_sortBlocks_75 : decode cX3_sortBlocks 75 = .ok (.goto (-68), 3) := by decide +kernel
theorem dX3_sortBlocks_78 : decode cX3_sortBlocks 78 = .ok (.return_, 1) := by decide +kernel
theorem dX3_keyOf_0 : decode cX3_keyOf 0 = .ok (.iconst 0, 1) := by decide +kernel
theorem dX3_keyOf_1 : decode cX3_keyOf 1 = .ok (.istore_n 3, 1) := by decide +kernel
theorem dX3_keyOf_2 : decode cX3_keyOf 2 = .ok (.iconst 0, 1) := by decide +kernel
theorem dX3_keyOf_3 : decode cX3_keyOf 3 = .ok (.istore 4, 2) := by decide +kernel
theorem dX3_keyOf_5 : decode cX3_keyOf 5 = .ok (.iload 4, 2) := by decide +kernel
theorem dX3_keyOf_7 : decode cX3_keyOf 7 = .ok (.iconst 4, 1) := by decide +kernel
theorem dX3_keyOf_8 : decode cX3_keyOf 8 = .ok (.if_icmp .ge 32, 3) := by decide +kernel
theorem dX3_keyOf_11 : decode cX3_keyOf 11 = .ok (.iload_n 1, 1) := by decide +kernel
theorem dX3_keyOf_12 : decode cX3_keyOf 12 = .ok (.iload 4, 2) := by decide +kernel
theorem dX3_keyOf_14 : decode cX3_keyOf 14 = .ok (.ishr, 1) := by decide +kernel
theorem dX3_keyOf_15 : decode cX3_keyOf 15 = .ok (.iconst 1, 1) := by decide +kernel
theorem dX3_keyOf_16 : decode cX3_keyOf 16 = .ok (.iand, 1) := by decide +kernel
theorem dX3_keyOf_17 : decode cX3_keyOf 17 = .ok (.iconst 1, 1) := by decide +kernel
theorem dX3_keyOf_18 : decode cX3_keyOf 18 = .ok (.if_icmp .ne 16, 3) := by decide +kernel
theorem dX3_keyOf_21 : decode cX3_keyOf 21 = .ok (.iload_n 3, 1) := by decide +kernel
theorem dX3_keyOf_22 : decode cX3_keyOf 22 = .ok (.bipush 6, 2) := by decide +kernel
theorem dX3_keyOf_24 : decode cX3_keyOf 24 = .ok (.imul, 1) := by decide +kernel
theorem dX3_keyOf_25 : decode cX3_keyOf 25 = .ok (.aload_n 0, 1) := by decide +kernel
theorem dX3_keyOf_26 : decode cX3_keyOf 26 = .ok (.iload 4, 2) := by decide +kernel
theorem dX3_keyOf_28 : decode cX3_keyOf 28 = .ok (.iload_n 2, 1) := by decide +kernel
theorem dX3_keyOf_29 : decode cX3_keyOf 29 = .ok (.invokevirtual 40, 3) := by decide +kernel
theorem dX3_keyOf_32 : decode cX3_keyOf 32 = .ok (.iadd, 1) := by decide +kernel
theorem dX3_keyOf_33 : decode cX3_keyOf 33 = .ok (.istore_n 3, 1) := by decide +kernel
theorem dX3_keyOf_34 : decode cX3_keyOf 34 = .ok (.iinc 4 1, 3) := by decide +kernel
theorem dX3_keyOf_37 : decode cX3_keyOf 37 = .ok (.goto (-32), 3) := by decide +kernel
theorem dX3_keyOf_40 : decode cX3_keyOf 40 = .ok (.iload_n 3, 1) := by decide +kernel
theorem dX3_keyOf_41 : decode cX3_keyOf 41 = .ok (.ireturn, 1) := by decide +kernel
theorem dX3_styleWithKey_0 : decode cX3_styleWithKey 0 = .ok (.iconst 0, 1) := by decide +kernel
theorem dX3_styleWithKey_1 : decode cX3_styleWithKey 1 = .ok (.istore_n 2, 1) := by decide +kernel
theorem dX3_styleWithKey_2 : decode cX3_styleWithKey 2 = .ok (.iload_n 2, 1) := by decide +kernel
theorem dX3_styleWithKey_3 : decode cX3_styleWithKey 3 = .ok (.aload_n 0, 1) := by decide +kernel
theorem dX3_styleWithKey_4 : decode cX3_styleWithKey 4 = .ok (.getfield 28, 3) := by decide +kernel
theorem dX3_styleWithKey_7 : decode cX3_styleWithKey 7 = .ok (.if_icmp .ge 26, 3) := by decide +kernel
theorem dX3_styleWithKey_10 : decode cX3_styleWithKey 10 = .ok (.aload_n 0, 1) := by decide +kernel
theorem dX3_styleWithKey_11 : decode cX3_styleWithKey 11 = .ok (.getfield 9, 3) := by decide +kernel
theorem dX3_styleWithKey_14 : decode cX3_styleWithKey 14 = .ok (.aload_n 0, 1) := by decide +kernel
theorem dX3_styleWithKey_15 : decode cX3_styleWithKey 15 = .ok (.getfield 18, 3) := by decide +kernel
theorem dX3_styleWithKey_18 : decode cX3_styleWithKey 18 = .ok (.iload_n 2, 1) := by decide +kernel
theorem dX3_styleWithKey_19 : decode cX3_styleWithKey 19 = .ok (.iaload, 1) := by decide +kernel
theorem dX3_styleWithKey_20 : decode cX3_styleWithKey 20 = .ok (.iaload, 1) := by decide +kernel
theorem dX3_styleWithKey_21 : decode cX3_styleWithKey 21 = .ok (.iload_n 1, 1) := by decide +kernel
theorem dX3_styleWithKey_22 : decode cX3_styleWithKey 22 = .ok (.if_icmp .ne 5, 3) := by decide +kernel
theorem dX3_styleWithKey_25 : decode cX3_styleWithKey 25 = .ok (.iload_n 2, 1) := by decide +kernel
theorem dX3_styleWithKey_26 : decode cX3_styleWithKey 26 = .ok (.ireturn, 1) := by decide +kernel
theorem dX3_styleWithKey_27 : decode cX3_styleWithKey 27 = .ok (.iinc 2 1, 3) := by decide +kernel
theorem dX3_styleWithKey_30 : decode cX3_styleWithKey 30 = .ok (.goto (-28), 3) := by decide +kernel
theorem dX3_styleWithKey_33 : decode cX3_styleWithKey 33 = .ok (.aload_n 0, 1) := by decide +kernel
theorem dX3_styleWithKey_34 : decode cX3_styleWithKey 34 = .ok (.getfield 28, 3) := by decide +kernel
theorem dX3_styleWithKey_37 : decode cX3_styleWithKey 37 = .ok (.ireturn, 1) := by decide +kernel
theorem dX3_blocksOf_0 : decode cX3_blocksOf 0 = .ok (.iconst 0, 1) := by decide +kernel
theorem dX3_blocksOf_1 : decode cX3_blocksOf 1 = .ok (.istore_n 2, 1) := by decide +kernel
theorem dX3_blocksOf_2 : decode cX3_blocksOf 2 = .ok (.iconst 0, 1) := by decide +kernel
theorem dX3_blocksOf_3 : decode cX3_blocksOf 3 = .ok (.istore_n 3, 1) := by decide +kernel
theorem dX3_blocksOf_4 : decode cX3_blocksOf 4 = .ok (.iload_n 3, 1) := by decide +kernel
theorem dX3_blocksOf_5 : decode cX3_blocksOf 5 = .ok (.bipush 24, 2) := by decide +kernel
theorem dX3_blocksOf_7 : decode cX3_blocksOf 7 = .ok (.if_icmp .ge 22, 3) := by decide +kernel
theorem dX3_blocksOf_10 : decode cX3_blocksOf 10 = .ok (.aload_n 0, 1) := by decide +kernel
theorem dX3_blocksOf_11 : decode cX3_blocksOf 11 = .ok (.getfield 15, 3) := by decide +kernel
theorem dX3_blocksOf_14 : decode cX3_blocksOf 14 = .ok (.iload_n 3, 1) := by decide +kernel
theorem dX3_blocksOf_15 : decode cX3_blocksOf 15 = .ok (.iaload, 1) := by decide +kernel
theorem dX3_blocksOf_16 : decode cX3_blocksOf 16 = .ok (.iload_n 1, 1) := by decide +kernel
theorem dX3_blocksOf_17 : decode cX3_blocksOf 17 = .ok (.if_icmp .ne 6, 3) := by decide +kernel
theorem dX3_blocksOf_20 : decode cX3_blocksOf 20 = .ok (.iinc 2 1, 3) := by decide +kernel
theorem dX3_blocksOf_23 : decode cX3_blocksOf 23 = .ok (.iinc 3 1, 3) := by decide +kernel
theorem dX3_blocksOf_26 : decode cX3_blocksOf 26 = .ok (.goto (-22), 3) := by decide +kernel
theorem dX3_blocksOf_29 : decode cX3_blocksOf 29 = .ok (.iload_n 2, 1) := by decide +kernel
theorem dX3_blocksOf_30 : decode cX3_blocksOf 30 = .ok (.ireturn, 1) := by decide +kernel
theorem dX3_votersOf_0 : decode cX3_votersOf 0 = .ok (.iconst 0, 1) := by decide +kernel
theorem dX3_votersOf_1 : decode cX3_votersOf 1 = .ok (.istore_n 3, 1) := by decide +kernel
theorem dX3_votersOf_2 : decode cX3_votersOf 2 = .ok (.iconst 0, 1) := by decide +kernel
theorem dX3_votersOf_3 : decode cX3_votersOf 3 = .ok (.istore 4, 2) := by decide +kernel
theorem dX3_votersOf_5 : decode cX3_votersOf 5 = .ok (.iload 4, 2) := by decide +kernel
theorem dX3_votersOf_7 : decode cX3_votersOf 7 = .ok (.bipush 24, 2) := by decide +kernel
theorem dX3_votersOf_9 : decode cX3_votersOf 9 = .ok (.if_icmp .ge 30, 3) := by decide +kernel
theorem dX3_votersOf_12 : decode cX3_votersOf 12 = .ok (.aload_n 0, 1) := by decide +kernel
theorem dX3_votersOf_13 : decode cX3_votersOf 13 = .ok (.getfield 15, 3) := by decide +kernel
theorem dX3_votersOf_16 : decode cX3_votersOf 16 = .ok (.iload 4, 2) := by decide +kernel
theorem dX3_votersOf_18 : decode cX3_votersOf 18 = .ok (.iaload, 1) := by decide +kernel
theorem dX3_votersOf_19 : decode cX3_votersOf 19 = .ok (.iload_n 1, 1) := by decide +kernel
theorem dX3_votersOf_20 : decode cX3_votersOf 20 = .ok (.if_icmp .ne 13, 3) := by decide +kernel
theorem dX3_votersOf_23 : decode cX3_votersOf 23 = .ok (.iload_n 3, 1) := by decide +kernel
theorem dX3_votersOf_24 : decode cX3_votersOf 24 = .ok (.aload_n 2, 1) := by decide +kernel
theorem dX3_votersOf_25 : decode cX3_votersOf 25 = .ok (.getfield 46, 3) := by decide +kernel
theorem dX3_votersOf_28 : decode cX3_votersOf 28 = .ok (.iload 4, 2) := by decide +kernel
theorem dX3_votersOf_30 : decode cX3_votersOf 30 = .ok (.iaload, 1) := by decide +kernel
theorem dX3_votersOf_31 : decode cX3_votersOf 31 = .ok (.iadd, 1) := by decide +kernel
theorem dX3_votersOf_32 : decode cX3_votersOf 32 = .ok (.istore_n 3, 1) := by decide +kernel
theorem dX3_votersOf_33 : decode cX3_votersOf 33 = .ok (.iinc 4 1, 3) := by decide +kernel
theorem dX3_votersOf_36 : decode cX3_votersOf 36 = .ok (.goto (-31), 3) := by decide +kernel
theorem dX3_votersOf_39 : decode cX3_votersOf 39 = .ok (.iload_n 3, 1) := by decide +kernel
theorem dX3_votersOf_40 : decode cX3_votersOf 40 = .ok (.ireturn, 1) := by decide +kernel
theorem dX3_partsOf_0 : decode cX3_partsOf 0 = .ok (.iconst 0, 1) := by decide +kernel
theorem dX3_partsOf_1 : decode cX3_partsOf 1 = .ok (.istore_n 2, 1) := by decide +kernel
theorem dX3_partsOf_2 : decode cX3_partsOf 2 = .ok (.iload_n 2, 1) := by decide +kernel
theorem dX3_partsOf_3 : decode cX3_partsOf 3 = .ok (.bipush 24, 2) := by decide +kernel
theorem dX3_partsOf_5 : decode cX3_partsOf 5 = .ok (.if_icmp .ge 30, 3) := by decide +kernel
theorem dX3_partsOf_8 : decode cX3_partsOf 8 = .ok (.aload_n 0, 1) := by decide +kernel
theorem dX3_partsOf_9 : decode cX3_partsOf 9 = .ok (.getfield 24, 3) := by decide +kernel
theorem dX3_partsOf_12 : decode cX3_partsOf 12 = .ok (.iload_n 2, 1) := by decide +kernel
theorem dX3_partsOf_13 : decode cX3_partsOf 13 = .ok (.aload_n 0, 1) := by decide +kernel
theorem dX3_partsOf_14 : decode cX3_partsOf 14 = .ok (.getfield 15, 3) := by decide +kernel
theorem dX3_partsOf_17 : decode cX3_partsOf 17 = .ok (.iload_n 2, 1) := by decide +kernel
theorem dX3_partsOf_18 : decode cX3_partsOf 18 = .ok (.iaload, 1) := by decide +kernel
theorem dX3_partsOf_19 : decode cX3_partsOf 19 = .ok (.iload_n 1, 1) := by decide +kernel
theorem dX3_partsOf_20 : decode cX3_partsOf 20 = .ok (.if_icmp .eq 7, 3) := by decide +kernel
theorem dX3_partsOf_23 : decode cX3_partsOf 23 = .ok (.iconst 1, 1) := by decide +kernel
theorem dX3_partsOf_24 : decode cX3_partsOf 24 = .ok (.goto 4, 3) := by decide +kernel
theorem dX3_partsOf_27 : decode cX3_partsOf 27 = .ok (.iconst 0, 1) := by decide +kernel
theorem dX3_partsOf_28 : decode cX3_partsOf 28 = .ok (.bastore, 1) := by decide +kernel
theorem dX3_partsOf_29 : decode cX3_partsOf 29 = .ok (.iinc 2 1, 3) := by decide +kernel
theorem dX3_partsOf_32 : decode cX3_partsOf 32 = .ok (.goto (-30), 3) := by decide +kernel
theorem dX3_partsOf_35 : decode cX3_partsOf 35 = .ok (.iconst 0, 1) := by decide +kernel
theorem dX3_partsOf_36 : decode cX3_partsOf 36 = .ok (.istore_n 2, 1) := by decide +kernel
theorem dX3_partsOf_37 : decode cX3_partsOf 37 = .ok (.iconst 0, 1) := by decide +kernel
theorem dX3_partsOf_38 : decode cX3_partsOf 38 = .ok (.istore_n 3, 1) := by decide +kernel
theorem dX3_partsOf_39 : decode cX3_partsOf 39 = .ok (.iload_n 3, 1) := by decide +kernel
theorem dX3_partsOf_40 : decode cX3_partsOf 40 = .ok (.bipush 24, 2) := by decide +kernel
theorem dX3_partsOf_42 : decode cX3_partsOf 42 = .ok (.if_icmp .ge 26, 3) := by decide +kernel
theorem dX3_partsOf_45 : decode cX3_partsOf 45 = .ok (.aload_n 0, 1) := by decide +kernel
theorem dX3_partsOf_46 : decode cX3_partsOf 46 = .ok (.getfield 24, 3) := by decide +kernel
theorem dX3_partsOf_49 : decode cX3_partsOf 49 = .ok (.iload_n 3, 1) := by decide +kernel
theorem dX3_partsOf_50 : decode cX3_partsOf 50 = .ok (.baload, 1) := by decide +kernel
theorem dX3_partsOf_51 : decode cX3_partsOf 51 = .ok (.ifCond .ne 11, 3) := by decide +kernel
theorem dX3_partsOf_54 : decode cX3_partsOf 54 = .ok (.iinc 2 1, 3) := by decide +kernel
theorem dX3_partsOf_57 : decode cX3_partsOf 57 = .ok (.aload_n 0, 1) := by decide +kernel
theorem dX3_partsOf_58 : decode cX3_partsOf 58 = .ok (.iload_n 3, 1) := by decide +kernel
theorem dX3_partsOf_59 : decode cX3_partsOf 59 = .ok (.invokevirtual 49, 3) := by decide +kernel
theorem dX3_partsOf_62 : decode cX3_partsOf 62 = .ok (.iinc 3 1, 3) := by decide +kernel
theorem dX3_partsOf_65 : decode cX3_partsOf 65 = .ok (.goto (-26), 3) := by decide +kernel
theorem dX3_partsOf_68 : decode cX3_partsOf 68 = .ok (.iload_n 2, 1) := by decide +kernel
theorem dX3_partsOf_69 : decode cX3_partsOf 69 = .ok (.ireturn, 1) := by decide +kernel
theorem dX3_visitPart_0 : decode cX3_visitPart 0 = .ok (.iconst 1, 1) := by decide +kernel
theorem dX3_visitPart_1 : decode cX3_visitPart 1 = .ok (.istore_n 2, 1) := by decide +kernel
theorem dX3_visitPart_2 : decode cX3_visitPart 2 = .ok (.aload_n 0, 1) := by decide +kernel
theorem dX3_visitPart_3 : decode cX3_visitPart 3 = .ok (.getfield 21, 3) := by decide +kernel
theorem dX3_visitPart_6 : decode cX3_visitPart 6 = .ok (.iconst 0, 1) := by decide +kernel
theorem dX3_visitPart_7 : decode cX3_visitPart 7 = .ok (.iload_n 1, 1) := by decide +kernel
theorem dX3_visitPart_8 : decode cX3_visitPart 8 = .ok (.iastore, 1) := by decide +kernel
theorem dX3_visitPart_9 : decode cX3_visitPart 9 = .ok (.aload_n 0, 1) := by decide +kernel
theorem dX3_visitPart_10 : decode cX3_visitPart 10 = .ok (.getfield 24, 3) := by decide +kernel
theorem dX3_visitPart_13 : decode cX3_visitPart 13 = .ok (.iload_n 1, 1) := by decide +kernel
theorem dX3_visitPart_14 : decode cX3_visitPart 14 = .ok (.iconst 1, 1) := by decide +kernel
theorem dX3_visitPart_15 : decode cX3_visitPart 15 = .ok (.bastore, 1) := by decide +kernel
theorem dX3_visitPart_16 : decode cX3_visitPart 16 = .ok (.iconst 0, 1) := by decide +kernel
theorem dX3_visitPart_17 : decode cX3_visitPart 17 = .ok (.istore_n 3, 1) := by decide +kernel
theorem dX3_visitPart_18 : decode cX3_visitPart 18 = .ok (.iload_n 3, 1) := by decide +kernel
theorem dX3_visitPart_19 : decode cX3_visitPart 19 = .ok (.iload_n 2, 1) := by decide +kernel
theorem dX3_visitPart_20 : decode cX3_visitPart 20 = .ok (.if_icmp .ge 84, 3) := by decide +kernel
theorem dX3_visitPart_23 : decode cX3_visitPart 23 = .ok (.iload_n 3, 1) := by decide +kernel
theorem dX3_visitPart_24 : decode cX3_visitPart 24 = .ok (.bipush 24, 2) := by decide +kernel
theorem dX3_visitPart_26 : decode cX3_visitPart 26 = .ok (.if_icmp .ge 78, 3) := by decide +kernel
theorem dX3_visitPart_29 : decode cX3_visitPart 29 = .ok (.iconst 0, 1) := by decide +kernel
theorem dX3_visitPart_30 : decode cX3_visitPart 30 = .ok (.istore 4, 2) := by decide +kernel
theorem dX3_visitPart_32 : decode cX3_visitPart 32 = .ok (.iload 4, 2) := by decide +kernel
theorem dX3_visitPart_34 : decode cX3_visitPart 34 = .ok (.iconst 4, 1) := by decide +kernel
theorem dX3_visitPart_35 : decode cX3_visitPart 35 = .ok (.if_icmp .ge 63, 3) := by decide +kernel
theorem dX3_visitPart_38 : decode cX3_visitPart 38 = .ok (.aload_n 0, 1) := by decide +kernel
theorem dX3_visitPart_39 : decode cX3_visitPart 39 = .ok (.getfield 21, 3) := by decide +kernel
theorem dX3_visitPart_42 : decode cX3_visitPart 42 = .ok (.iload_n 3, 1) := by decide +kernel
theorem dX3_visitPart_43 : decode cX3_visitPart 43 = .ok (.iaload, 1) := by decide +kernel
theorem dX3_visitPart_44 : decode cX3_visitPart 44 = .ok (.iload 4, 2) := by decide +kernel
theorem dX3_visitPart_46 : decode cX3_visitPart 46 = .ok (.invokestatic 53, 3) := by decide +kernel
theorem dX3_visitPart_49 : decode cX3_visitPart 49 = .ok (.istore 5, 2) := by decide +kernel
theorem dX3_visitPart_51 : decode cX3_visitPart 51 = .ok (.iload 5, 2) := by decide +kernel
theorem dX3_visitPart_53 : decode cX3_visitPart 53 = .ok (.iconst (-1), 1) := by decide +kernel
theorem dX3_visitPart_54 : decode cX3_visitPart 54 = .ok (.if_icmp .eq 38, 3) := by decide +kernel
theorem dX3_visitPart_57 : decode cX3_visitPart 57 = .ok (.aload_n 0, 1) := by decide +kernel
theorem dX3_visitPart_58 : decode cX3_visitPart 58 = .ok (.getfield 24, 3) := by decide +kernel
theorem dX3_visitPart_61 : decode cX3_visitPart 61 = .ok (.iload 5, 2) := by decide +kernel
theorem dX3_visitPart_63 : decode cX3_visitPart 63 = .ok (.baload, 1) := by decide +kernel
theorem dX3_visitPart_64 : decode cX3_visitPart 64 = .ok (.ifCond .ne 28, 3) := by decide +kernel
theorem dX3_visitPart_67 : decode cX3_visitPart 67 = .ok (.iload_n 2, 1) := by decide +kernel
theorem dX3_visitPart_68 : decode cX3_visitPart 68 = .ok (.bipush 24, 2) := by decide +kernel
theorem dX3_visitPart_70 : decode cX3_visitPart 70 = .ok (.if_icmp .ge 22, 3) := by decide +kernel
theorem dX3_visitPart_73 : decode cX3_visitPart 73 = .ok (.aload_n 0, 1) := by decide +kernel
theorem dX3_visitPart_74 : decode cX3_visitPart 74 = .ok (.getfield 24, 3) := by decide +kernel
theorem dX3_visitPart_77 : decode cX3_visitPart 77 = .ok (.iload 5, 2) := by decide +kernel
theorem dX3_visitPart_79 : decode cX3_visitPart 79 = .ok (.iconst 1, 1) := by decide +kernel
theorem dX3_visitPart_80 : decode cX3_visitPart 80 = .ok (.bastore, 1) := by decide +kernel
theorem dX3_visitPart_81 : decode cX3_visitPart 81 = .ok (.aload_n 0, 1) := by decide +kernel
theorem dX3_visitPart_82 : decode cX3_visitPart 82 = .ok (.getfield 21, 3) := by decide +kernel
theorem dX3_visitPart_85 : decode cX3_visitPart 85 = .ok (.iload_n 2, 1) := by decide +kernel
theorem dX3_visitPart_86 : decode cX3_visitPart 86 = .ok (.iload 5, 2) := by decide +kernel
theorem dX3_visitPart_88 : decode cX3_visitPart 88 = .ok (.iastore, 1) := by decide +kernel
theorem dX3_visitPart_89 : decode cX3_visitPart 89 = .ok (.iinc 2 1, 3) := by decide +kernel
theorem dX3_visitPart_92 : decode cX3_visitPart 92 = .ok (.iinc 4 1, 3) := by decide +kernel
theorem dX3_visitPart_95 : decode cX3_visitPart 95 = .ok (.goto (-63), 3) := by decide +kernel
theorem dX3_visitPart_98 : decode cX3_visitPart 98 = .ok (.iinc 3 1, 3) := by decide +kernel
theorem dX3_visitPart_101 : decode cX3_visitPart 101 = .ok (.goto (-83), 3) := by decide +kernel
theorem dX3_visitPart_104 : decode cX3_visitPart 104 = .ok (.return_, 1) := by decide +kernel
theorem dX3_neighbour_0 : decode cX3_neighbour 0 = .ok (.iload_n 0, 1) := by decide +kernel
theorem dX3_neighbour_1 : decode cX3_neighbour 1 = .ok (.iconst 4, 1) := by decide +kernel
theorem dX3_neighbour_2 : decode cX3_neighbour 2 = .ok (.irem, 1) := by decide +kernel
theorem dX3_neighbour_3 : decode cX3_neighbour 3 = .ok (.istore_n 2, 1) := by decide +kernel
theorem dX3_neighbour_4 : decode cX3_neighbour 4 = .ok (.iload_n 1, 1) := by decide +kernel
theorem dX3_neighbour_5 : decode cX3_neighbour 5 = .ok (.tableswitch 66 0 2 #[27, 40, 54], 27) := by decide +kernel
theorem dX3_neighbour_32 : decode cX3_neighbour 32 = .ok (.iload_n 2, 1) := by decide +kernel
theorem dX3_neighbour_33 : decode cX3_neighbour 33 = .ok (.iconst 3, 1) := by decide +kernel
theorem dX3_neighbour_34 : decode cX3_neighbour 34 = .ok (.if_icmp .ge 9, 3) := by decide +kernel
theorem dX3_neighbour_37 : decode cX3_neighbour 37 = .ok (.iload_n 0, 1) := by decide +kernel
theorem dX3_neighbour_38 : decode cX3_neighbour 38 = .ok (.iconst 1, 1) := by decide +kernel
theorem dX3_neighbour_39 : decode cX3_neighbour 39 = .ok (.iadd, 1) := by decide +kernel
theorem dX3_neighbour_40 : decode cX3_neighbour 40 = .ok (.goto 4, 3) := by decide +kernel
theorem dX3_neighbour_43 : decode cX3_neighbour 43 = .ok (.iconst (-1), 1) := by decide +kernel
theorem dX3_neighbour_44 : decode cX3_neighbour 44 = .ok (.ireturn, 1) := by decide +kernel
theorem dX3_neighbour_45 : decode cX3_neighbour 45 = .ok (.iload_n 0, 1) := by decide +kernel
theorem dX3_neighbour_46 : decode cX3_neighbour 46 = .ok (.bipush 20, 2) := by decide +kernel
theorem dX3_neighbour_48 : decode cX3_neighbour 48 = .ok (.if_icmp .ge 9, 3) := by decide +kernel
theorem dX3_neighbour_51 : decode cX3_neighbour 51 = .ok (.iload_n 0, 1) := by decide +kernel
theorem dX3_neighbour_52 : decode cX3_neighbour 52 = .ok (.iconst 4, 1) := by decide +kernel
theorem dX3_neighbour_53 : decode cX3_neighbour 53 = .ok (.iadd, 1) := by decide +kernel
theorem dX3_neighbour_54 : decode cX3_neighbour 54 = .ok (.goto 4, 3) := by decide +kernel
theorem dX3_neighbour_57 : decode cX3_neighbour 57 = .ok (.iconst (-1), 1) := by decide +kernel
theorem dX3_neighbour_58 : decode cX3_neighbour 58 = .ok (.ireturn, 1) := by decide +kernel
theorem dX3_neighbour_59 : decode cX3_neighbour 59 = .ok (.iload_n 2, 1) := by decide +kernel
theorem dX3_neighbour_60 : decode cX3_neighbour 60 = .ok (.ifCond .le 9, 3) := by decide +kernel
theorem dX3_neighbour_63 : decode cX3_neighbour 63 = .ok (.iload_n 0, 1) := by decide +kernel
theorem dX3_neighbour_64 : decode cX3_neighbour 64 = .ok (.iconst 1, 1) := by decide +kernel
theorem dX3_neighbour_65 : decode cX3_neighbour 65 = .ok (.isub, 1) := by decide +kernel
theorem dX3_neighbour_66 : decode cX3_neighbour 66 = .ok (.goto 4, 3) := by decide +kernel
theorem dX3_neighbour_69 : decode cX3_neighbour 69 = .ok (.iconst (-1), 1) := by decide +kernel
theorem dX3_neighbour_70 : decode cX3_neighbour 70 = .ok (.ireturn, 1) := by decide +kernel
theorem dX3_neighbour_71 : decode cX3_neighbour 71 = .ok (.iload_n 0, 1) := by decide +kernel
theorem dX3_neighbour_72 : decode cX3_neighbour 72 = .ok (.iconst 4, 1) := by decide +kernel
theorem dX3_neighbour_73 : decode cX3_neighbour 73 = .ok (.if_icmp .lt 9, 3) := by decide +kernel
theorem dX3_neighbour_76 : decode cX3_neighbour 76 = .ok (.iload_n 0, 1) := by decide +kernel
theorem dX3_neighbour_77 : decode cX3_neighbour 77 = .ok (.iconst 4, 1) := by decide +kernel
theorem dX3_neighbour_78 : decode cX3_neighbour 78 = .ok (.isub, 1) := by decide +kernel
theorem dX3_neighbour_79 : decode cX3_neighbour 79 = .ok (.goto 4, 3) := by decide +kernel
theorem dX3_neighbour_82 : decode cX3_neighbour 82 = .ok (.iconst (-1), 1) := by decide +kernel
theorem dX3_neighbour_83 : decode cX3_neighbour 83 = .ok (.ireturn, 1) := by decide +kernel
theorem dX3_unlikePairs_0 : decode cX3_unlikePairs 0 = .ok (.iconst 0, 1) := by decide +kernel
theorem dX3_unlikePairs_1 : decode cX3_unlikePairs 1 = .ok (.istore_n 1, 1) := by decide +kernel
theorem dX3_unlikePairs_2 : decode cX3_unlikePairs 2 = .ok (.iconst 0, 1) := by decide +kernel
theorem dX3_unlikePairs_3 : decode cX3_unlikePairs 3 = .ok (.istore_n 2, 1) := by decide +kernel
theorem dX3_unlikePairs_4 : decode cX3_unlikePairs 4 = .ok (.iload_n 2, 1) := by decide +kernel
theorem dX3_unlikePairs_5 : decode cX3_unlikePairs 5 = .ok (.bipush 24, 2) := by decide +kernel
theorem dX3_unlikePairs_7 : decode cX3_unlikePairs 7 = .ok (.if_icmp .ge 54, 3) := by decide +kernel
theorem dX3_unlikePairs_10 : decode cX3_unlikePairs 10 = .ok (.iconst 0, 1) := by decide +kernel
theorem dX3_unlikePairs_11 : decode cX3_unlikePairs 11 = .ok (.istore_n 3, 1) := by decide +kernel
theorem dX3_unlikePairs_12 : decode cX3_unlikePairs 12 = .ok (.iload_n 3, 1) := by decide +kernel
theorem dX3_unlikePairs_13 : decode cX3_unlikePairs 13 = .ok (.iconst 2, 1) := by decide +kernel
theorem dX3_unlikePairs_14 : decode cX3_unlikePairs 14 = .ok (.if_icmp .ge 41, 3) := by decide +kernel
theorem dX3_unlikePairs_17 : decode cX3_unlikePairs 17 = .ok (.iload_n 2, 1) := by decide +kernel
theorem dX3_unlikePairs_18 : decode cX3_unlikePairs 18 = .ok (.iload_n 3, 1) := by decide +kernel
theorem dX3_unlikePairs_19 : decode cX3_unlikePairs 19 = .ok (.invokestatic 53, 3) := by decide +kernel
theorem dX3_unlikePairs_22 : decode cX3_unlikePairs 22 = .ok (.istore 4, 2) := by decide +kernel
theorem dX3_unlikePairs_24 : decode cX3_unlikePairs 24 = .ok (.iload 4, 2) := by decide +kernel
theorem dX3_unlikePairs_26 : decode cX3_unlikePairs 26 = .ok (.iconst (-1), 1) := by decide +kernel
theorem dX3_unlikePairs_27 : decode cX3_unlikePairs 27 = .ok (.if_icmp .eq 22, 3) := by decide +kernel
theorem dX3_unlikePairs_30 : decode cX3_unlikePairs 30 = .ok (.aload_n 0, 1) := by decide +kernel
theorem dX3_unlikePairs_31 : decode cX3_unlikePairs 31 = .ok (.getfield 15, 3) := by decide +kernel
theorem dX3_unlikePairs_34 : decode cX3_unlikePairs 34 = .ok (.iload_n 2, 1) := by decide +kernel
theorem dX3_unlikePairs_35 : decode cX3_unlikePairs 35 = .ok (.iaload, 1) := by decide +kernel
theorem dX3_unlikePairs_36 : decode cX3_unlikePairs 36 = .ok (.aload_n 0, 1) := by decide +kernel
theorem dX3_unlikePairs_37 : decode cX3_unlikePairs 37 = .ok (.getfield 15, 3) := by decide +kernel
theorem dX3_unlikePairs_40 : decode cX3_unlikePairs 40 = .ok (.iload 4, 2) := by decide +kernel
theorem dX3_unlikePairs_42 : decode cX3_unlikePairs 42 = .ok (.iaload, 1) := by decide +kernel
theorem dX3_unlikePairs_43 : decode cX3_unlikePairs 43 = .ok (.if_icmp .eq 6, 3) := by decide +kernel
theorem dX3_unlikePairs_46 : decode cX3_unlikePairs 46 = .ok (.iinc 1 1, 3) := by decide +kernel
theorem dX3_unlikePairs_49 : decode cX3_unlikePairs 49 = .ok (.iinc 3 1, 3) := by decide +kernel
theorem dX3_unlikePairs_52 : decode cX3_unlikePairs 52 = .ok (.goto (-40), 3) := by decide +kernel
theorem dX3_unlikePairs_55 : decode cX3_unlikePairs 55 = .ok (.iinc 2 1, 3) := by decide +kernel
theorem dX3_unlikePairs_58 : decode cX3_unlikePairs 58 = .ok (.goto (-54), 3) := by decide +kernel
theorem dX3_unlikePairs_61 : decode cX3_unlikePairs 61 = .ok (.iload_n 1, 1) := by decide +kernel
theorem dX3_unlikePairs_62 : decode cX3_unlikePairs 62 = .ok (.ireturn, 1) := by decide +kernel
theorem dX3_pairsOf_0 : decode cX3_pairsOf 0 = .ok (.iconst 0, 1) := by decide +kernel
theorem dX3_pairsOf_1 : decode cX3_pairsOf 1 = .ok (.istore_n 3, 1) := by decide +kernel
theorem dX3_pairsOf_2 : decode cX3_pairsOf 2 = .ok (.iconst 0, 1) := by decide +kernel
theorem dX3_pairsOf_3 : decode cX3_pairsOf 3 = .ok (.istore 4, 2) := by decide +kernel
theorem dX3_pairsOf_5 : decode cX3_pairsOf 5 = .ok (.iload 4, 2) := by decide +kernel
theorem dX3_pairsOf_7 : decode cX3_pairsOf 7 = .ok (.bipush 24, 2) := by decide +kernel
theorem dX3_pairsOf_9 : decode cX3_pairsOf 9 = .ok (.if_icmp .ge 64, 3) := by decide +kernel
theorem dX3_pairsOf_12 : decode cX3_pairsOf 12 = .ok (.iconst 0, 1) := by decide +kernel
theorem dX3_pairsOf_13 : decode cX3_pairsOf 13 = .ok (.istore 5, 2) := by decide +kernel
theorem dX3_pairsOf_15 : decode cX3_pairsOf 15 = .ok (.iload 5, 2) := by decide +kernel
theorem dX3_pairsOf_17 : decode cX3_pairsOf 17 = .ok (.iconst 2, 1) := by decide +kernel
theorem dX3_pairsOf_18 : decode cX3_pairsOf 18 = .ok (.if_icmp .ge 49, 3) := by decide +kernel
theorem dX3_pairsOf_21 : decode cX3_pairsOf 21 = .ok (.iload 4, 2) := by decide +kernel
theorem dX3_pairsOf_23 : decode cX3_pairsOf 23 = .ok (.iload 5, 2) := by decide +kernel
theorem dX3_pairsOf_25 : decode cX3_pairsOf 25 = .ok (.invokestatic 53, 3) := by decide +kernel
theorem dX3_pairsOf_28 : decode cX3_pairsOf 28 = .ok (.istore 6, 2) := by decide +kernel
theorem dX3_pairsOf_30 : decode cX3_pairsOf 30 = .ok (.iload 6, 2) := by decide +kernel
theorem dX3_pairsOf_32 : decode cX3_pairsOf 32 = .ok (.iconst (-1), 1) := by decide +kernel
theorem dX3_pairsOf_33 : decode cX3_pairsOf 33 = .ok (.if_icmp .eq 28, 3) := by decide +kernel
theorem dX3_pairsOf_36 : decode cX3_pairsOf 36 = .ok (.aload_n 0, 1) := by decide +kernel
theorem dX3_pairsOf_37 : decode cX3_pairsOf 37 = .ok (.getfield 15, 3) := by decide +kernel
theorem dX3_pairsOf_40 : decode cX3_pairsOf 40 = .ok (.iload 4, 2) := by decide +kernel
theorem dX3_pairsOf_42 : decode cX3_pairsOf 42 = .ok (.iaload, 1) := by decide +kernel
theorem dX3_pairsOf_43 : decode cX3_pairsOf 43 = .ok (.aload_n 0, 1) := by decide +kernel
theorem dX3_pairsOf_44 : decode cX3_pairsOf 44 = .ok (.getfield 15, 3) := by decide +kernel
theorem dX3_pairsOf_47 : decode cX3_pairsOf 47 = .ok (.iload 6, 2) := by decide +kernel
theorem dX3_pairsOf_49 : decode cX3_pairsOf 49 = .ok (.iaload, 1) := by decide +kernel
theorem dX3_pairsOf_50 : decode cX3_pairsOf 50 = .ok (.iload_n 1, 1) := by decide +kernel
theorem dX3_pairsOf_51 : decode cX3_pairsOf 51 = .ok (.iload_n 2, 1) := by decide +kernel
theorem dX3_pairsOf_52 : decode cX3_pairsOf 52 = .ok (.invokestatic 56, 3) := by decide +kernel
theorem dX3_pairsOf_55 : decode cX3_pairsOf 55 = .ok (.ifCond .eq 6, 3) := by decide +kernel
theorem dX3_pairsOf_58 : decode cX3_pairsOf 58 = .ok (.iinc 3 1, 3) := by decide +kernel
theorem dX3_pairsOf_61 : decode cX3_pairsOf 61 = .ok (.iinc 5 1, 3) := by decide +kernel
theorem dX3_pairsOf_64 : decode cX3_pairsOf 64 = .ok (.goto (-49), 3) := by decide +kernel
theorem dX3_pairsOf_67 : decode cX3_pairsOf 67 = .ok (.iinc 4 1, 3) := by decide +kernel
theorem dX3_pairsOf_70 : decode cX3_pairsOf 70 = .ok (.goto (-65), 3) := by decide +kernel
theorem dX3_pairsOf_73 : decode cX3_pairsOf 73 = .ok (.iload_n 3, 1) := by decide +kernel
theorem dX3_pairsOf_74 : decode cX3_pairsOf 74 = .ok (.ireturn, 1) := by decide +kernel
theorem dX3_arePair_0 : decode cX3_arePair 0 = .ok (.iload_n 0, 1) := by decide +kernel
theorem dX3_arePair_1 : decode cX3_arePair 1 = .ok (.iload_n 2, 1) := by decide +kernel
theorem dX3_arePair_2 : decode cX3_arePair 2 = .ok (.if_icmp .ne 8, 3) := by decide +kernel
theorem dX3_arePair_5 : decode cX3_arePair 5 = .ok (.iload_n 1, 1) := by decide +kernel
theorem dX3_arePair_6 : decode cX3_arePair 6 = .ok (.iload_n 3, 1) := by decide +kernel
theorem dX3_arePair_7 : decode cX3_arePair 7 = .ok (.if_icmp .eq 13, 3) := by decide +kernel
theorem dX3_arePair_10 : decode cX3_arePair 10 = .ok (.iload_n 0, 1) := by decide +kernel
theorem dX3_arePair_11 : decode cX3_arePair 11 = .ok (.iload_n 3, 1) := by decide +kernel
theorem dX3_arePair_12 : decode cX3_arePair 12 = .ok (.if_icmp .ne 12, 3) := by decide +kernel
theorem dX3_arePair_15 : decode cX3_arePair 15 = .ok (.iload_n 1, 1) := by decide +kernel
theorem dX3_arePair_16 : decode cX3_arePair 16 = .ok (.iload_n 2, 1) := by decide +kernel
theorem dX3_arePair_17 : decode cX3_arePair 17 = .ok (.if_icmp .ne 7, 3) := by decide +kernel
theorem dX3_arePair_20 : decode cX3_arePair 20 = .ok (.iconst 1, 1) := by decide +kernel
theorem dX3_arePair_21 : decode cX3_arePair 21 = .ok (.goto 4, 3) := by decide +kernel
theorem dX3_arePair_24 : decode cX3_arePair 24 = .ok (.iconst 0, 1) := by decide +kernel
theorem dX3_arePair_25 : decode cX3_arePair 25 = .ok (.ireturn, 1) := by decide +kernel
theorem dX3_fewestVoters_0 : decode cX3_fewestVoters 0 = .ok (.iconst 0, 1) := by decide +kernel
theorem dX3_fewestVoters_1 : decode cX3_fewestVoters 1 = .ok (.istore_n 2, 1) := by decide +kernel
theorem dX3_fewestVoters_2 : decode cX3_fewestVoters 2 = .ok (.aload_n 0, 1) := by decide +kernel
theorem dX3_fewestVoters_3 : decode cX3_fewestVoters 3 = .ok (.iconst 0, 1) := by decide +kernel
theorem dX3_fewestVoters_4 : decode cX3_fewestVoters 4 = .ok (.aload_n 1, 1) := by decide +kernel
theorem dX3_fewestVoters_5 : decode cX3_fewestVoters 5 = .ok (.invokevirtual 60, 3) := by decide +kernel
theorem dX3_fewestVoters_8 : decode cX3_fewestVoters 8 = .ok (.istore_n 3, 1) := by decide +kernel
theorem dX3_fewestVoters_9 : decode cX3_fewestVoters 9 = .ok (.iconst 1, 1) := by decide +kernel
theorem dX3_fewestVoters_10 : decode cX3_fewestVoters 10 = .ok (.istore 4, 2) := by decide +kernel
theorem dX3_fewestVoters_12 : decode cX3_fewestVoters 12 = .ok (.iload 4, 2) := by decide +kernel
theorem dX3_fewestVoters_14 : decode cX3_fewestVoters 14 = .ok (.aload_n 0, 1) := by decide +kernel
theorem dX3_fewestVoters_15 : decode cX3_fewestVoters 15 = .ok (.getfield 28, 3) := by decide +kernel
theorem dX3_fewestVoters_18 : decode cX3_fewestVoters 18 = .ok (.if_icmp .ge 30, 3) := by decide +kernel
theorem dX3_fewestVoters_21 : decode cX3_fewestVoters 21 = .ok (.aload_n 0, 1) := by decide +kernel
theorem dX3_fewestVoters_22 : decode cX3_fewestVoters 22 = .ok (.iload 4, 2) := by decide +kernel
theorem dX3_fewestVoters_24 : decode cX3_fewestVoters 24 = .ok (.aload_n 1, 1) := by decide +kernel
theorem dX3_fewestVoters_25 : decode cX3_fewestVoters 25 = .ok (.invokevirtual 60, 3) := by decide +kernel
theorem dX3_fewestVoters_28 : decode cX3_fewestVoters 28 = .ok (.istore 5, 2) := by decide +kernel
theorem dX3_fewestVoters_30 : decode cX3_fewestVoters 30 = .ok (.iload 5, 2) := by decide +kernel
theorem dX3_fewestVoters_32 : decode cX3_fewestVoters 32 = .ok (.iload_n 3, 1) := by decide +kernel
theorem dX3_fewestVoters_33 : decode cX3_fewestVoters 33 = .ok (.if_icmp .ge 9, 3) := by decide +kernel
theorem dX3_fewestVoters_36 : decode cX3_fewestVoters 36 = .ok (.iload 4, 2) := by decide +kernel
theorem dX3_fewestVoters_38 : decode cX3_fewestVoters 38 = .ok (.istore_n 2, 1) := by decide +kernel
theorem dX3_fewestVoters_39 : decode cX3_fewestVoters 39 = .ok (.iload 5, 2) := by decide +kernel
theorem dX3_fewestVoters_41 : decode cX3_fewestVoters 41 = .ok (.istore_n 3, 1) := by decide +kernel
theorem dX3_fewestVoters_42 : decode cX3_fewestVoters 42 = .ok (.iinc 4 1, 3) := by decide +kernel
theorem dX3_fewestVoters_45 : decode cX3_fewestVoters 45 = .ok (.goto (-33), 3) := by decide +kernel
theorem dX3_fewestVoters_48 : decode cX3_fewestVoters 48 = .ok (.iload_n 2, 1) := by decide +kernel
theorem dX3_fewestVoters_49 : decode cX3_fewestVoters 49 = .ok (.ireturn, 1) := by decide +kernel
theorem dX3_mostParts_0 : decode cX3_mostParts 0 = .ok (.iconst 0, 1) := by decide +kernel
theorem dX3_mostParts_1 : decode cX3_mostParts 1 = .ok (.istore_n 1, 1) := by decide +kernel
theorem dX3_mostParts_2 : decode cX3_mostParts 2 = .ok (.aload_n 0, 1) := by decide +kernel
theorem dX3_mostParts_3 : decode cX3_mostParts 3 = .ok (.iconst 0, 1) := by decide +kernel
theorem dX3_mostParts_4 : decode cX3_mostParts 4 = .ok (.invokevirtual 64, 3) := by decide +kernel
theorem dX3_mostParts_7 : decode cX3_mostParts 7 = .ok (.istore_n 2, 1) := by decide +kernel
theorem dX3_mostParts_8 : decode cX3_mostParts 8 = .ok (.iconst 1, 1) := by decide +kernel
theorem dX3_mostParts_9 : decode cX3_mostParts 9 = .ok (.istore_n 3, 1) := by decide +kernel
theorem dX3_mostParts_10 : decode cX3_mostParts 10 = .ok (.iload_n 3, 1) := by decide +kernel
theorem dX3_mostParts_11 : decode cX3_mostParts 11 = .ok (.aload_n 0, 1) := by decide +kernel
theorem dX3_mostParts_12 : decode cX3_mostParts 12 = .ok (.getfield 28, 3) := by decide +kernel
theorem dX3_mostParts_15 : decode cX3_mostParts 15 = .ok (.if_icmp .ge 27, 3) := by decide +kernel
theorem dX3_mostParts_18 : decode cX3_mostParts 18 = .ok (.aload_n 0, 1) := by decide +kernel
theorem dX3_mostParts_19 : decode cX3_mostParts 19 = .ok (.iload_n 3, 1) := by decide +kernel
theorem dX3_mostParts_20 : decode cX3_mostParts 20 = .ok (.invokevirtual 64, 3) := by decide +kernel
theorem dX3_mostParts_23 : decode cX3_mostParts 23 = .ok (.istore 4, 2) := by decide +kernel
theorem dX3_mostParts_25 : decode cX3_mostParts 25 = .ok (.iload 4, 2) := by decide +kernel
theorem dX3_mostParts_27 : decode cX3_mostParts 27 = .ok (.iload_n 2, 1) := by decide +kernel
theorem dX3_mostParts_28 : decode cX3_mostParts 28 = .ok (.if_icmp .le 8, 3) := by decide +kernel
theorem dX3_mostParts_31 : decode cX3_mostParts 31 = .ok (.iload_n 3, 1) := by decide +kernel
theorem dX3_mostParts_32 : decode cX3_mostParts 32 = .ok (.istore_n 1, 1) := by decide +kernel
theorem dX3_mostParts_33 : decode cX3_mostParts 33 = .ok (.iload 4, 2) := by decide +kernel
theorem dX3_mostParts_35 : decode cX3_mostParts 35 = .ok (.istore_n 2, 1) := by decide +kernel
theorem dX3_mostParts_36 : decode cX3_mostParts 36 = .ok (.iinc 3 1, 3) := by decide +kernel
theorem dX3_mostParts_39 : decode cX3_mostParts 39 = .ok (.goto (-29), 3) := by decide +kernel
theorem dX3_mostParts_42 : decode cX3_mostParts 42 = .ok (.iload_n 1, 1) := by decide +kernel
theorem dX3_mostParts_43 : decode cX3_mostParts 43 = .ok (.ireturn, 1) := by decide +kernel
theorem dX4_init_0 : decode cX4_init 0 = .ok (.aload_n 0, 1) := by decide +kernel
theorem dX4_init_1 : decode cX4_init 1 = .ok (.invokespecial 3, 3) := by decide +kernel
theorem dX4_init_4 : decode cX4_init 4 = .ok (.aload_n 0, 1) := by decide +kernel
theorem dX4_init_5 : decode cX4_init 5 = .ok (.bipush 24, 2) := by decide +kernel
theorem dX4_init_7 : decode cX4_init 7 = .ok (.newarray .int, 2) := by decide +kernel
theorem dX4_init_9 : decode cX4_init 9 = .ok (.putfield 9, 3) := by decide +kernel
theorem dX4_init_12 : decode cX4_init 12 = .ok (.aload_n 0, 1) := by decide +kernel
theorem dX4_init_13 : decode cX4_init 13 = .ok (.bipush 96, 2) := by decide +kernel
theorem dX4_init_15 : decode cX4_init 15 = .ok (.newarray .int, 2) := by decide +kernel
theorem dX4_init_17 : decode cX4_init 17 = .ok (.putfield 15, 3) := by decide +kernel
theorem dX4_init_20 : decode cX4_init 20 = .ok (.aload_n 0, 1) := by decide +kernel
theorem dX4_init_21 : decode cX4_init 21 = .ok (.bipush 24, 2) := by decide +kernel
theorem dX4_init_23 : decode cX4_init 23 = .ok (.newarray .int, 2) := by decide +kernel
theorem dX4_init_25 : decode cX4_init 25 = .ok (.putfield 18, 3) := by decide +kernel
theorem dX4_init_28 : decode cX4_init 28 = .ok (.aload_n 0, 1) := by decide +kernel
theorem dX4_init_29 : decode cX4_init 29 = .ok (.iconst 1, 1) := by decide +kernel
theorem dX4_init_30 : decode cX4_init 30 = .ok (.putfield 21, 3) := by decide +kernel
theorem dX4_init_33 : decode cX4_init 33 = .ok (.iconst 0, 1) := by decide +kernel
theorem dX4_init_34 : decode cX4_init 34 = .ok (.istore_n 1, 1) := by decide +kernel
theorem dX4_init_35 : decode cX4_init 35 = .ok (.iload_n 1, 1) := by decide +kernel
theorem dX4_init_36 : decode cX4_init 36 = .ok (.bipush 24, 2) := by decide +kernel
theorem dX4_init_38 : decode cX4_init 38 = .ok (.if_icmp .ge 16, 3) := by decide +kernel
theorem dX4_init_41 : decode cX4_init 41 = .ok (.aload_n 0, 1) := by decide +kernel
theorem dX4_init_42 : decode cX4_init 42 = .ok (.getfield 9, 3) := by decide +kernel
theorem dX4_init_45 : decode cX4_init 45 = .ok (.iload_n 1, 1) := by decide +kernel
theorem dX4_init_46 : decode cX4_init 46 = .ok (.iconst 1, 1) := by decide +kernel
theorem dX4_init_47 : decode cX4_init 47 = .ok (.iastore, 1) := by decide +kernel
theorem dX4_init_48 : decode cX4_init 48 = .ok (.iinc 1 1, 3) := by decide +kernel
theorem dX4_init_51 : decode cX4_init 51 = .ok (.goto (-16), 3) := by decide +kernel
theorem dX4_init_54 : decode cX4_init 54 = .ok (.iconst 0, 1) := by decide +kernel
theorem dX4_init_55 : decode cX4_init 55 = .ok (.istore_n 1, 1) := by decide +kernel
theorem dX4_init_56 : decode cX4_init 56 = .ok (.iload_n 1, 1) := by decide +kernel
theorem dX4_init_57 : decode cX4_init 57 = .ok (.bipush 24, 2) := by decide +kernel
theorem dX4_init_59 : decode cX4_init 59 = .ok (.if_icmp .ge 16, 3) := by decide +kernel
theorem dX4_init_62 : decode cX4_init 62 = .ok (.aload_n 0, 1) := by decide +kernel
theorem dX4_init_63 : decode cX4_init 63 = .ok (.getfield 18, 3) := by decide +kernel
theorem dX4_init_66 : decode cX4_init 66 = .ok (.iload_n 1, 1) := by decide +kernel
theorem dX4_init_67 : decode cX4_init 67 = .ok (.iconst 2, 1) := by decide +kernel
theorem dX4_init_68 : decode cX4_init 68 = .ok (.iastore, 1) := by decide +kernel
theorem dX4_init_69 : decode cX4_init 69 = .ok (.iinc 1 1, 3) := by decide +kernel
theorem dX4_init_72 : decode cX4_init 72 = .ok (.goto (-16), 3) := by decide +kernel
theorem dX4_init_75 : decode cX4_init 75 = .ok (.return_, 1) := by decide +kernel
theorem dX4_copyFrom_0 : decode cX4_copyFrom 0 = .ok (.aload_n 1, 1) := by decide +kernel
theorem dX4_copyFrom_1 : decode cX4_copyFrom 1 = .ok (.getfield 9, 3) := by decide +kernel
theorem dX4_copyFrom_4 : decode cX4_copyFrom 4 = .ok (.iconst 0, 1) := by decide +kernel
theorem dX4_copyFrom_5 : decode cX4_copyFrom 5 = .ok (.aload_n 0, 1) := by decide +kernel
theorem dX4_copyFrom_6 : decode cX4_copyFrom 6 = .ok (.getfield 9, 3) := by decide +kernel
theorem dX4_copyFrom_9 : decode cX4_copyFrom 9 = .ok (.iconst 0, 1) := by decide +kernel
theorem dX4_copyFrom_10 : decode cX4_copyFrom 10 = .ok (.bipush 24, 2) := by decide +kernel
theorem dX4_copyFrom_12 : decode cX4_copyFrom 12 = .ok (.invokestatic 25, 3) := by decide +kernel
theorem dX4_copyFrom_15 : decode cX4_copyFrom 15 = .ok (.aload_n 1, 1) := by decide +kernel
theorem dX4_copyFrom_16 : decode cX4_copyFrom 16 = .ok (.getfield 15, 3) := by decide +kernel
theorem dX4_copyFrom_19 : decode cX4_copyFrom 19 = .ok (.iconst 0, 1) := by decide +kernel
theorem dX4_copyFrom_20 : decode cX4_copyFrom 20 = .ok (.aload_n 0, 1) := by decide +kernel
theorem dX4_copyFrom_21 : decode cX4_copyFrom 21 = .ok (.getfield 15, 3) := by decide +kernel
theorem dX4_copyFrom_24 : decode cX4_copyFrom 24 = .ok (.iconst 0, 1) := by decide +kernel
theorem dX4_copyFrom_25 : decode cX4_copyFrom 25 = .ok (.bipush 96, 2) := by decide +kernel
theorem dX4_copyFrom_27 : decode cX4_copyFrom 27 = .ok (.invokestatic 25, 3) := by decide +kernel
theorem dX4_copyFrom_30 : decode cX4_copyFrom 30 = .ok (.aload_n 1, 1) := by decide +kernel
theorem dX4_copyFrom_31 : decode cX4_copyFrom 31 = .ok (.getfield 18, 3) := by decide +kernel
theorem dX4_copyFrom_34 : decode cX4_copyFrom 34 = .ok (.iconst 0, 1) := by decide +kernel
theorem dX4_copyFrom_35 : decode cX4_copyFrom 35 = .ok (.aload_n 0, 1) := by decide +kernel
theorem dX4_copyFrom_36 : decode cX4_copyFrom 36 = .ok (.getfield 18, 3) := by decide +kernel
theorem dX4_copyFrom_39 : decode cX4_copyFrom 39 = .ok (.iconst 0, 1) := by decide +kernel
theorem dX4_copyFrom_40 : decode cX4_copyFrom 40 = .ok (.bipush 24, 2) := by decide +kernel
theorem dX4_copyFrom_42 : decode cX4_copyFrom 42 = .ok (.invokestatic 25, 3) := by decide +kernel
theorem dX4_copyFrom_45 : decode cX4_copyFrom 45 = .ok (.aload_n 0, 1) := by decide +kernel
theorem dX4_copyFrom_46 : decode cX4_copyFrom 46 = .ok (.aload_n 1, 1) := by decide +kernel
theorem dX4_copyFrom_47 : decode cX4_copyFrom 47 = .ok (.getfield 21, 3) := by decide +kernel
theorem dX4_copyFrom_50 : decode cX4_copyFrom 50 = .ok (.putfield 21, 3) := by decide +kernel
theorem dX4_copyFrom_53 : decode cX4_copyFrom 53 = .ok (.return_, 1) := by decide +kernel
theorem dX4_isOn_0 : decode cX4_isOn 0 = .ok (.aload_n 0, 1) := by decide +kernel
theorem dX4_isOn_1 : decode cX4_isOn 1 = .ok (.getfield 21, 3) := by decide +kernel
theorem dX4_isOn_4 : decode cX4_isOn 4 = .ok (.iload_n 1, 1) := by decide +kernel
theorem dX4_isOn_5 : decode cX4_isOn 5 = .ok (.ishr, 1) := by decide +kernel
theorem dX4_isOn_6 : decode cX4_isOn 6 = .ok (.iconst 1, 1) := by decide +kernel
theorem dX4_isOn_7 : decode cX4_isOn 7 = .ok (.iand, 1) := by decide +kernel
theorem dX4_isOn_8 : decode cX4_isOn 8 = .ok (.iconst 1, 1) := by decide +kernel
theorem dX4_isOn_9 : decode cX4_isOn 9 = .ok (.if_icmp .ne 7, 3) := by decide +kernel
theorem dX4_isOn_12 : decode cX4_isOn 12 = .ok (.iconst 1, 1) := by decide +kernel
theorem dX4_isOn_13 : decode cX4_isOn 13 = .ok (.goto 4, 3) := by decide +kernel
theorem dX4_isOn_16 : decode cX4_isOn 16 = .ok (.iconst 0, 1) := by decide +kernel
theorem dX4_isOn_17 : decode cX4_isOn 17 = .ok (.ireturn, 1) := by decide +kernel
theorem dX4_districtOf_0 : decode cX4_districtOf 0 = .ok (.aload_n 0, 1) := by decide +kernel
theorem dX4_districtOf_1 : decode cX4_districtOf 1 = .ok (.getfield 15, 3) := by decide +kernel
theorem dX4_districtOf_4 : decode cX4_districtOf 4 = .ok (.iload_n 1, 1) := by decide +kernel
theorem dX4_districtOf_5 : decode cX4_districtOf 5 = .ok (.bipush 24, 2) := by decide +kernel
theorem dX4_districtOf_7 : decode cX4_districtOf 7 = .ok (.imul, 1) := by decide +kernel
theorem dX4_districtOf_8 : decode cX4_districtOf 8 = .ok (.iload_n 2, 1) := by decide +kernel
theorem dX4_districtOf_9 : decode cX4_districtOf 9 = .ok (.iadd, 1) := by decide +kernel
theorem dX4_districtOf_10 : decode cX4_districtOf 10 = .ok (.iaload, 1) := by decide +kernel
theorem dX4_districtOf_11 : decode cX4_districtOf 11 = .ok (.ireturn, 1) := by decide +kernel
theorem dX4_namesOf_0 : decode cX4_namesOf 0 = .ok (.aload_n 0, 1) := by decide +kernel
theorem dX4_namesOf_1 : decode cX4_namesOf 1 = .ok (.getfield 18, 3) := by decide +kernel
theorem dX4_namesOf_4 : decode cX4_namesOf 4 = .ok (.iload_n 1, 1) := by decide +kernel
theorem dX4_namesOf_5 : decode cX4_namesOf 5 = .ok (.bipush 6, 2) := by decide +kernel
theorem dX4_namesOf_7 : decode cX4_namesOf 7 = .ok (.imul, 1) := by decide +kernel
theorem dX4_namesOf_8 : decode cX4_namesOf 8 = .ok (.iload_n 2, 1) := by decide +kernel
theorem dX4_namesOf_9 : decode cX4_namesOf 9 = .ok (.iadd, 1) := by decide +kernel
theorem dX4_namesOf_10 : decode cX4_namesOf 10 = .ok (.iaload, 1) := by decide +kernel
theorem dX4_namesOf_11 : decode cX4_namesOf 11 = .ok (.ireturn, 1) := by decide +kernel
theorem dX4_heightAt_0 : decode cX4_heightAt 0 = .ok (.iconst 2, 1) := by decide +kernel
theorem dX4_heightAt_1 : decode cX4_heightAt 1 = .ok (.aload_n 0, 1) := by decide +kernel
theorem dX4_heightAt_2 : decode cX4_heightAt 2 = .ok (.iload_n 1, 1) := by decide +kernel
theorem dX4_heightAt_3 : decode cX4_heightAt 3 = .ok (.aload_n 0, 1) := by decide +kernel
theorem dX4_heightAt_4 : decode cX4_heightAt 4 = .ok (.iload_n 1, 1) := by decide +kernel
theorem dX4_heightAt_5 : decode cX4_heightAt 5 = .ok (.iload_n 2, 1) := by decide +kernel
theorem dX4_heightAt_6 : decode cX4_heightAt 6 = .ok (.invokevirtual 31, 3) := by decide +kernel
theorem dX4_heightAt_9 : decode cX4_heightAt 9 = .ok (.invokevirtual 35, 3) := by decide +kernel
theorem dX4_heightAt_12 : decode cX4_heightAt 12 = .ok (.iadd, 1) := by decide +kernel
theorem dX4_heightAt_13 : decode cX4_heightAt 13 = .ok (.ireturn, 1) := by decide +kernel
theorem dX4_switchLayer_0 : decode cX4_switchLayer 0 = .ok (.aload_n 0, 1) := by decide +kernel
theorem dX4_switchLayer_1 : decode cX4_switchLayer 1 = .ok (.getfield 21, 3) := by decide +kernel
theorem dX4_switchLayer_4 : decode cX4_switchLayer 4 = .ok (.iload_n 1, 1) := by decide +kernel
theorem dX4_switchLayer_5 : decode cX4_switchLayer 5 = .ok (.ishr, 1) := by decide +kernel
theorem dX4_switchLayer_6 : decode cX4_switchLayer 6 = .ok (.iconst 1, 1) := by decide +kernel
theorem dX4_switchLayer_7 : decode cX4_switchLayer 7 = .ok (.iand, 1) := by decide +kernel
theorem dX4_switchLayer_8 : decode cX4_switchLayer 8 = .ok (.istore_n 3, 1) := by decide +kernel
theorem dX4_switchLayer_9 : decode cX4_switchLayer 9 = .ok (.aload_n 0, 1) := by decide +kernel
theorem dX4_switchLayer_10 : decode cX4_switchLayer 10 = .ok (.iload_n 2, 1) := by decide +kernel
theorem dX4_switchLayer_11 : decode cX4_switchLayer 11 = .ok (.iconst 1, 1) := by decide +kernel
theorem dX4_switchLayer_12 : decode cX4_switchLayer 12 = .ok (.if_icmp .ne 14, 3) := by decide +kernel
theorem dX4_switchLayer_15 : decode cX4_switchLayer 15 = .ok (.aload_n 0, 1) := by decide +kernel
theorem dX4_switchLayer_16 : decode cX4_switchLayer 16 = .ok (.getfield 21, 3) := by decide +kernel
theorem dX4_switchLayer_19 : decode cX4_switchLayer 19 = .ok (.iconst 1, 1) := by decide +kernel
theorem dX4_switchLayer_20 : decode cX4_switchLayer 20 = .ok (.iload_n 1, 1) := by decide +kernel
theorem dX4_switchLayer_21 : decode cX4_switchLayer 21 = .ok (.ishl, 1) := by decide +kernel
theorem dX4_switchLayer_22 : decode cX4_switchLayer 22 = .ok (.ior, 1) := by decide +kernel
theorem dX4_switchLayer_23 : decode cX4_switchLayer 23 = .ok (.goto 13, 3) := by decide +kernel
theorem dX4_switchLayer_26 : decode cX4_switchLayer 26 = .ok (.aload_n 0, 1) := by decide +kernel
theorem dX4_switchLayer_27 : decode cX4_switchLayer 27 = .ok (.getfield 21, 3) := by decide +kernel
theorem dX4_switchLayer_30 : decode cX4_switchLayer 30 = .ok (.iconst 1, 1) := by decide +kernel
theorem dX4_switchLayer_31 : decode cX4_switchLayer 31 = .ok (.iload_n 1, 1) := by decide +kernel
theorem dX4_switchLayer_32 : decode cX4_switchLayer 32 = .ok (.ishl, 1) := by decide +kernel
theorem dX4_switchLayer_33 : decode cX4_switchLayer 33 = .ok (.iconst (-1), 1) := by decide +kernel
theorem dX4_switchLayer_34 : decode cX4_switchLayer 34 = .ok (.ixor, 1) := by decide +kernel
theorem dX4_switchLayer_35 : decode cX4_switchLayer 35 = .ok (.iand, 1) := by decide +kernel
theorem dX4_switchLayer_36 : decode cX4_switchLayer 36 = .ok (.putfield 21, 3) := by decide +kernel
theorem dX4_switchLayer_39 : decode cX4_switchLayer 39 = .ok (.iload_n 3, 1) := by decide +kernel
theorem dX4_switchLayer_40 : decode cX4_switchLayer 40 = .ok (.iload_n 2, 1) := by decide +kernel
theorem dX4_switchLayer_41 : decode cX4_switchLayer 41 = .ok (.if_icmp .ne 7, 3) := by decide +kernel
theorem dX4_switchLayer_44 : decode cX4_switchLayer 44 = .ok (.iconst 0, 1) := by decide +kernel
theorem dX4_switchLayer_45 : decode cX4_switchLayer 45 = .ok (.goto 4, 3) := by decide +kernel
theorem dX4_switchLayer_48 : decode cX4_switchLayer 48 = .ok (.iconst 1, 1) := by decide +kernel
theorem dX4_switchLayer_49 : decode cX4_switchLayer 49 = .ok (.ireturn, 1) := by decide +kernel
theorem dX4_setNames_0 : decode cX4_setNames 0 = .ok (.aload_n 0, 1) := by decide +kernel
theorem dX4_setNames_1 : decode cX4_setNames 1 = .ok (.getfield 18, 3) := by decide +kernel
theorem dX4_setNames_4 : decode cX4_setNames 4 = .ok (.iload_n 1, 1) := by decide +kernel
theorem dX4_setNames_5 : decode cX4_setNames 5 = .ok (.bipush 6, 2) := by decide +kernel
theorem dX4_setNames_7 : decode cX4_setNames 7 = .ok (.imul, 1) := by decide +kernel
theorem dX4_setNames_8 : decode cX4_setNames 8 = .ok (.iload_n 2, 1) := by decide +kernel
theorem dX4_setNames_9 : decode cX4_setNames 9 = .ok (.iadd, 1) := by decide +kernel
theorem dX4_setNames_10 : decode cX4_setNames 10 = .ok (.iaload, 1) := by decide +kernel
theorem dX4_setNames_11 : decode cX4_setNames 11 = .ok (.istore 4, 2) := by decide +kernel
theorem dX4_setNames_13 : decode cX4_setNames 13 = .ok (.aload_n 0, 1) := by decide +kernel
theorem dX4_setNames_14 : decode cX4_setNames 14 = .ok (.getfield 18, 3) := by decide +kernel
theorem dX4_setNames_17 : decode cX4_setNames 17 = .ok (.iload_n 1, 1) := by decide +kernel
theorem dX4_setNames_18 : decode cX4_setNames 18 = .ok (.bipush 6, 2) := by decide +kernel
theorem dX4_setNames_20 : decode cX4_setNames 20 = .ok (.imul, 1) := by decide +kernel
theorem dX4_setNames_21 : decode cX4_setNames 21 = .ok (.iload_n 2, 1) := by decide +kernel
theorem dX4_setNames_22 : decode cX4_setNames 22 = .ok (.iadd, 1) := by decide +kernel
theorem dX4_setNames_23 : decode cX4_setNames 23 = .ok (.iload_n 3, 1) := by decide +kernel
theorem dX4_setNames_24 : decode cX4_setNames 24 = .ok (.iastore, 1) := by decide +kernel
theorem dX4_setNames_25 : decode cX4_setNames 25 = .ok (.iload 4, 2) := by decide +kernel
theorem dX4_setNames_27 : decode cX4_setNames 27 = .ok (.ireturn, 1) := by decide +kernel
theorem dX4_setVoters_0 : decode cX4_setVoters 0 = .ok (.aload_n 0, 1) := by decide +kernel
theorem dX4_setVoters_1 : decode cX4_setVoters 1 = .ok (.getfield 9, 3) := by decide +kernel
theorem dX4_setVoters_4 : decode cX4_setVoters 4 = .ok (.iload_n 1, 1) := by decide +kernel
theorem dX4_setVoters_5 : decode cX4_setVoters 5 = .ok (.iaload, 1) := by decide +kernel
theorem dX4_setVoters_6 : decode cX4_setVoters 6 = .ok (.istore_n 3, 1) := by decide +kernel
theorem dX4_setVoters_7 : decode cX4_setVoters 7 = .ok (.aload_n 0, 1) := by decide +kernel
theorem dX4_setVoters_8 : decode cX4_setVoters 8 = .ok (.getfield 9, 3) := by decide +kernel
theorem dX4_setVoters_11 : decode cX4_setVoters 11 = .ok (.iload_n 1, 1) := by decide +kernel
theorem dX4_setVoters_12 : decode cX4_setVoters 12 = .ok (.iload_n 2, 1) := by decide +kernel
theorem dX4_setVoters_13 : decode cX4_setVoters 13 = .ok (.iastore, 1) := by decide +kernel
theorem dX4_setVoters_14 : decode cX4_setVoters 14 = .ok (.iload_n 3, 1) := by decide +kernel
theorem dX4_setVoters_15 : decode cX4_setVoters 15 = .ok (.ireturn, 1) := by decide +kernel
theorem dX4_setDistrict_0 : decode cX4_setDistrict 0 = .ok (.aload_n 0, 1) := by decide +kernel
theorem dX4_setDistrict_1 : decode cX4_setDistrict 1 = .ok (.getfield 15, 3) := by decide +kernel
theorem dX4_setDistrict_4 : decode cX4_setDistrict 4 = .ok (.iload_n 1, 1) := by decide +kernel
theorem dX4_setDistrict_5 : decode cX4_setDistrict 5 = .ok (.bipush 24, 2) := by decide +kernel
theorem dX4_setDistrict_7 : decode cX4_setDistrict 7 = .ok (.imul, 1) := by decide +kernel
theorem dX4_setDistrict_8 : decode cX4_setDistrict 8 = .ok (.iload_n 2, 1) := by decide +kernel
theorem dX4_setDistrict_9 : decode cX4_setDistrict 9 = .ok (.iadd, 1) := by decide +kernel
theorem dX4_setDistrict_10 : decode cX4_setDistrict 10 = .ok (.iaload, 1) := by decide +kernel
theorem dX4_setDistrict_11 : decode cX4_setDistrict 11 = .ok (.istore 4, 2) := by decide +kernel
theorem dX4_setDistrict_13 : decode cX4_setDistrict 13 = .ok (.aload_n 0, 1) := by decide +kernel
theorem dX4_setDistrict_14 : decode cX4_setDistrict 14 = .ok (.getfield 15, 3) := by decide +kernel
theorem dX4_setDistrict_17 : decode cX4_setDistrict 17 = .ok (.iload_n 1, 1) := by decide +kernel
theorem dX4_setDistrict_18 : decode cX4_setDistrict 18 = .ok (.bipush 24, 2) := by decide +kernel
theorem dX4_setDistrict_20 : decode cX4_setDistrict 20 = .ok (.imul, 1) := by decide +kernel
theorem dX4_setDistrict_21 : decode cX4_setDistrict 21 = .ok (.iload_n 2, 1) := by decide +kernel
theorem dX4_setDistrict_22 : decode cX4_setDistrict 22 = .ok (.iadd, 1) := by decide +kernel
theorem dX4_setDistrict_23 : decode cX4_setDistrict 23 = .ok (.iload_n 3, 1) := by decide +kernel
theorem dX4_setDistrict_24 : decode cX4_setDistrict 24 = .ok (.iastore, 1) := by decide +kernel
theorem dX4_setDistrict_25 : decode cX4_setDistrict 25 = .ok (.iload 4, 2) := by decide +kernel
theorem dX4_setDistrict_27 : decode cX4_setDistrict 27 = .ok (.iload_n 3, 1) := by decide +kernel
theorem dX4_setDistrict_28 : decode cX4_setDistrict 28 = .ok (.if_icmp .ne 7, 3) := by decide +kernel
theorem dX4_setDistrict_31 : decode cX4_setDistrict 31 = .ok (.iconst 0, 1) := by decide +kernel
theorem dX4_setDistrict_32 : decode cX4_setDistrict 32 = .ok (.goto 4, 3) := by decide +kernel
theorem dX4_setDistrict_35 : decode cX4_setDistrict 35 = .ok (.iconst 1, 1) := by decide +kernel
theorem dX4_setDistrict_36 : decode cX4_setDistrict 36 = .ok (.ireturn, 1) := by decide +kernel
theorem dX4_putRectangle_0 : decode cX4_putRectangle 0 = .ok (.iconst 0, 1) := by decide +kernel
theorem dX4_putRectangle_1 : decode cX4_putRectangle 1 = .ok (.istore 5, 2) := by decide +kernel
theorem dX4_putRectangle_3 : decode cX4_putRectangle 3 = .ok (.iload_n 3, 1) := by decide +kernel
theorem dX4_putRectangle_4 : decode cX4_putRectangle 4 = .ok (.iconst 4, 1) := by decide +kernel
theorem dX4_putRectangle_5 : decode cX4_putRectangle 5 = .ok (.idiv, 1) := by decide +kernel
theorem dX4_putRectangle_6 : decode cX4_putRectangle 6 = .ok (.istore 6, 2) := by decide +kernel
theorem dX4_putRectangle_8 : decode cX4_putRectangle 8 = .ok (.iload 6, 2) := by decide +kernel
theorem dX4_putRectangle_10 : decode cX4_putRectangle 10 = .ok (.iload 4, 2) := by decide +kernel
theorem dX4_putRectangle_12 : decode cX4_putRectangle 12 = .ok (.iconst 4, 1) := by decide +kernel
theorem dX4_putRectangle_13 : decode cX4_putRectangle 13 = .ok (.idiv, 1) := by decide +kernel
theorem dX4_putRectangle_14 : decode cX4_putRectangle 14 = .ok (.if_icmp .gt 47, 3) := by decide +kernel
theorem dX4_putRectangle_17 : decode cX4_putRectangle 17 = .ok (.iload_n 3, 1) := by decide +kernel
theorem dX4_putRectangle_18 : decode cX4_putRectangle 18 = .ok (.iconst 4, 1) := by decide +kernel
theorem dX4_putRectangle_19 : decode cX4_putRectangle 19 = .ok (.irem, 1) := by decide +kernel
theorem dX4_putRectangle_20 : decode cX4_putRectangle 20 = .ok (.istore 7, 2) := by decide +kernel
theorem dX4_putRectangle_22 : decode cX4_putRectangle 22 = .ok (.iload 7, 2) := by decide +kernel
theorem dX4_putRectangle_24 : decode cX4_putRectangle 24 = .ok (.iload 4, 2) := by decide +kernel
theorem dX4_putRectangle_26 : decode cX4_putRectangle 26 = .ok (.iconst 4, 1) := by decide +kernel
theorem dX4_putRectangle_27 : decode cX4_putRectangle 27 = .ok (.irem, 1) := by decide +kernel
theorem dX4_putRectangle_28 : decode cX4_putRectangle 28 = .ok (.if_icmp .gt 27, 3) := by decide +kernel
theorem dX4_putRectangle_31 : decode cX4_putRectangle 31 = .ok (.iload 5, 2) := by decide +kernel
theorem dX4_putRectangle_33 : decode cX4_putRectangle 33 = .ok (.aload_n 0, 1) := by decide +kernel
theorem dX4_putRectangle_34 : decode cX4_putRectangle 34 = .ok (.iload_n 1, 1) := by decide +kernel
theorem dX4_putRectangle_35 : decode cX4_putRectangle 35 = .ok (.iconst 4, 1) := by decide +kernel
theorem dX4_putRectangle_36 : decode cX4_putRectangle 36 = .ok (.iload 6, 2) := by decide +kernel
theorem dX4_putRectangle_38 : decode cX4_putRectangle 38 = .ok (.imul, 1) := by decide +kernel
theorem dX4_putRectangle_39 : decode cX4_putRectangle 39 = .ok (.iload 7, 2) := by decide +kernel
theorem dX4_putRectangle_41 : decode cX4_putRectangle 41 = .ok (.iadd, 1) := by decide +kernel
theorem dX4_putRectangle_42 : decode cX4_putRectangle 42 = .ok (.iload_n 2, 1) := by decide +kernel
theorem dX4_putRectangle_43 : decode cX4_putRectangle 43 = .ok (.invokevirtual 38, 3) := by decide +kernel
theorem dX4_putRectangle_46 : decode cX4_putRectangle 46 = .ok (.iadd, 1) := by decide +kernel
theorem dX4_putRectangle_47 : decode cX4_putRectangle 47 = .ok (.istore 5, 2) := by decide +kernel
theorem dX4_putRectangle_49 : decode cX4_putRectangle 49 = .ok (.iinc 7 1, 3) := by decide +kernel
theorem dX4_putRectangle_52 : decode cX4_putRectangle 52 = .ok (.goto (-30), 3) := by decide +kernel
theorem dX4_putRectangle_55 : decode cX4_putRectangle 55 = .ok (.iinc 6 1, 3) := by decide +kernel
theorem dX4_putRectangle_58 : decode cX4_putRectangle 58 = .ok (.goto (-50), 3) := by decide +kernel
theorem dX4_putRectangle_61 : decode cX4_putRectangle 61 = .ok (.iload 5, 2) := by decide +kernel
theorem dX4_putRectangle_63 : decode cX4_putRectangle 63 = .ok (.ireturn, 1) := by decide +kernel
theorem dX4_drawLayer_0 : decode cX4_drawLayer 0 = .ok (.iload_n 2, 1) := by decide +kernel
theorem dX4_drawLayer_1 : decode cX4_drawLayer 1 = .ok (.i2l, 1) := by decide +kernel
theorem dX4_drawLayer_2 : decode cX4_drawLayer 2 = .ok (.lstore 4, 2) := by decide +kernel
theorem dX4_drawLayer_4 : decode cX4_drawLayer 4 = .ok (.iconst 0, 1) := by decide +kernel
theorem dX4_drawLayer_5 : decode cX4_drawLayer 5 = .ok (.istore 6, 2) := by decide +kernel
theorem dX4_drawLayer_7 : decode cX4_drawLayer 7 = .ok (.iconst 0, 1) := by decide +kernel
theorem dX4_drawLayer_8 : decode cX4_drawLayer 8 = .ok (.istore 7, 2) := by decide +kernel
theorem dX4_drawLayer_10 : decode cX4_drawLayer 10 = .ok (.iload 7, 2) := by decide +kernel
theorem dX4_drawLayer_12 : decode cX4_drawLayer 12 = .ok (.bipush 24, 2) := by decide +kernel
theorem dX4_drawLayer_14 : decode cX4_drawLayer 14 = .ok (.if_icmp .ge 73, 3) := by decide +kernel
theorem dX4_drawLayer_17 : decode cX4_drawLayer 17 = .ok (.lload 4, 2) := by decide +kernel
theorem dX4_drawLayer_19 : decode cX4_drawLayer 19 = .ok (.ldc2_w 42, 3) := by decide +kernel
theorem dX4_drawLayer_22 : decode cX4_drawLayer 22 = .ok (.lmul, 1) := by decide +kernel
theorem dX4_drawLayer_23 : decode cX4_drawLayer 23 = .ok (.ldc2_w 44, 3) := by decide +kernel
theorem dX4_drawLayer_26 : decode cX4_drawLayer 26 = .ok (.ladd, 1) := by decide +kernel
theorem dX4_drawLayer_27 : decode cX4_drawLayer 27 = .ok (.ldc2_w 46, 3) := by decide +kernel
theorem dX4_drawLayer_30 : decode cX4_drawLayer 30 = .ok (.lrem, 1) := by decide +kernel
theorem dX4_drawLayer_31 : decode cX4_drawLayer 31 = .ok (.lstore 4, 2) := by decide +kernel
theorem dX4_drawLayer_33 : decode cX4_drawLayer 33 = .ok (.aload_n 0, 1) := by decide +kernel
theorem dX4_drawLayer_34 : decode cX4_drawLayer 34 = .ok (.iload_n 1, 1) := by decide +kernel
theorem dX4_drawLayer_35 : decode cX4_drawLayer 35 = .ok (.iload 7, 2) := by decide +kernel
theorem dX4_drawLayer_37 : decode cX4_drawLayer 37 = .ok (.lload 4, 2) := by decide +kernel
theorem dX4_drawLayer_39 : decode cX4_drawLayer 39 = .ok (.ldc2_w 48, 3) := by decide +kernel
theorem dX4_drawLayer_42 : decode cX4_drawLayer 42 = .ok (.ldiv, 1) := by decide +kernel
theorem dX4_drawLayer_43 : decode cX4_drawLayer 43 = .ok (.iload_n 3, 1) := by decide +kernel
theorem dX4_drawLayer_44 : decode cX4_drawLayer 44 = .ok (.i2l, 1) := by decide +kernel
theorem dX4_drawLayer_45 : decode cX4_drawLayer 45 = .ok (.lrem, 1) := by decide +kernel
theorem dX4_drawLayer_46 : decode cX4_drawLayer 46 = .ok (.l2i, 1) := by decide +kernel
theorem dX4_drawLayer_47 : decode cX4_drawLayer 47 = .ok (.invokevirtual 38, 3) := by decide +kernel
theorem dX4_drawLayer_50 : decode cX4_drawLayer 50 = .ok (.pop, 1) := by decide +kernel
theorem dX4_drawLayer_51 : decode cX4_drawLayer 51 = .ok (.aload_n 0, 1) := by decide +kernel
theorem dX4_drawLayer_52 : decode cX4_drawLayer 52 = .ok (.getfield 9, 3) := by decide +kernel
theorem dX4_drawLayer_55 : decode cX4_drawLayer 55 = .ok (.iload 7, 2) := by decide +kernel
theorem dX4_drawLayer_57 : decode cX4_drawLayer 57 = .ok (.lload 4, 2) := by decide +kernel
theorem dX4_drawLayer_59 : decode cX4_drawLayer 59 = .ok (.ldc2_w 50, 3) := by decide +kernel
theorem dX4_drawLayer_62 : decode cX4_drawLayer 62 = .ok (.ldiv, 1) := by decide +kernel
theorem dX4_drawLayer_63 : decode cX4_drawLayer 63 = .ok (.ldc2_w 52, 3) := by decide +kernel
theorem dX4_drawLayer_66 : decode cX4_drawLayer 66 = .ok (.lrem, 1) := by decide +kernel
theorem dX4_drawLayer_67 : decode cX4_drawLayer 67 = .ok (.l2i, 1) := by decide +kernel
theorem dX4_drawLayer_68 : decode cX4_drawLayer 68 = .ok (.iastore, 1) := by decide +kernel
theorem dX4_drawLayer_69 : decode cX4_drawLayer 69 = .ok (.iload 6, 2) := by decide +kernel
theorem dX4_drawLayer_71 : decode cX4_drawLayer 71 = .ok (.aload_n 0, 1) := by decide +kernel
theorem dX4_drawLayer_72 : decode cX4_drawLayer 72 = .ok (.getfield 9, 3) := by decide +kernel
theorem dX4_drawLayer_75 : decode cX4_drawLayer 75 = .ok (.iload 7, 2) := by decide +kernel
theorem dX4_drawLayer_77 : decode cX4_drawLayer 77 = .ok (.iaload, 1) := by decide +kernel
theorem dX4_drawLayer_78 : decode cX4_drawLayer 78 = .ok (.iadd, 1) := by decide +kernel
theorem dX4_drawLayer_79 : decode cX4_drawLayer 79 = .ok (.istore 6, 2) := by decide +kernel
theorem dX4_drawLayer_81 : decode cX4_drawLayer 81 = .ok (.iinc 7 1, 3) := by decide +kernel
theorem dX4_drawLayer_84 : decode cX4_drawLayer 84 = .ok (.goto (-74), 3) := by decide +kernel
theorem dX4_drawLayer_87 : decode cX4_drawLayer 87 = .ok (.iload 6, 2) := by decide +kernel
theorem dX4_drawLayer_89 : decode cX4_drawLayer 89 = .ok (.ireturn, 1) := by decide +kernel
theorem dX4_followMap_0 : decode cX4_followMap 0 = .ok (.iconst 0, 1) := by decide +kernel
theorem dX4_followMap_1 : decode cX4_followMap 1 = .ok (.istore 5, 2) := by decide +kernel
theorem dX4_followMap_3 : decode cX4_followMap 3 = .ok (.iconst 0, 1) := by decide +kernel
theorem dX4_followMap_4 : decode cX4_followMap 4 = .ok (.istore 6, 2) := by decide +kernel
theorem dX4_followMap_6 : decode cX4_followMap 6 = .ok (.iload 6, 2) := by decide +kernel
theorem dX4_followMap_8 : decode cX4_followMap 8 = .ok (.bipush 24, 2) := by decide +kernel
theorem dX4_followMap_10 : decode cX4_followMap 10 = .ok (.if_icmp .ge 31, 3) := by decide +kernel
theorem dX4_followMap_13 : decode cX4_followMap 13 = .ok (.iload 5, 2) := by decide +kernel
theorem dX4_followMap_15 : decode cX4_followMap 15 = .ok (.aload_n 0, 1) := by decide +kernel
theorem dX4_followMap_16 : decode cX4_followMap 16 = .ok (.iload_n 2, 1) := by decide +kernel
theorem dX4_followMap_17 : decode cX4_followMap 17 = .ok (.iload 6, 2) := by decide +kernel
theorem dX4_followMap_19 : decode cX4_followMap 19 = .ok (.aload_n 1, 1) := by decide +kernel
theorem dX4_followMap_20 : decode cX4_followMap 20 = .ok (.iload_n 2, 1) := by decide +kernel
theorem dX4_followMap_21 : decode cX4_followMap 21 = .ok (.iload_n 3, 1) := by decide +kernel
theorem dX4_followMap_22 : decode cX4_followMap 22 = .ok (.iload 4, 2) := by decide +kernel
theorem dX4_followMap_24 : decode cX4_followMap 24 = .ok (.iload 6, 2) := by decide +kernel
theorem dX4_followMap_26 : decode cX4_followMap 26 = .ok (.invokestatic 54, 3) := by decide +kernel
theorem dX4_followMap_29 : decode cX4_followMap 29 = .ok (.invokevirtual 38, 3) := by decide +kernel
theorem dX4_followMap_32 : decode cX4_followMap 32 = .ok (.iadd, 1) := by decide +kernel
theorem dX4_followMap_33 : decode cX4_followMap 33 = .ok (.istore 5, 2) := by decide +kernel
theorem dX4_followMap_35 : decode cX4_followMap 35 = .ok (.iinc 6 1, 3) := by decide +kernel
theorem dX4_followMap_38 : decode cX4_followMap 38 = .ok (.goto (-32), 3) := by decide +kernel
theorem dX4_followMap_41 : decode cX4_followMap 41 = .ok (.iload 5, 2) := by decide +kernel
theorem dX4_followMap_43 : decode cX4_followMap 43 = .ok (.ireturn, 1) := by decide +kernel
theorem dX4_followed_0 : decode cX4_followed 0 = .ok (.iload 4, 2) := by decide +kernel
theorem dX4_followed_2 : decode cX4_followed 2 = .ok (.iconst 4, 1) := by decide +kernel
theorem dX4_followed_3 : decode cX4_followed 3 = .ok (.irem, 1) := by decide +kernel
theorem dX4_followed_4 : decode cX4_followed 4 = .ok (.istore 5, 2) := by decide +kernel
theorem dX4_followed_6 : decode cX4_followed 6 = .ok (.iload_n 2, 1) := by decide +kernel
theorem dX4_followed_7 : decode cX4_followed 7 = .ok (.tableswitch 68 0 2 #[25, 33, 51], 25) := by decide +kernel
theorem dX4_followed_32 : decode cX4_followed 32 = .ok (.aload_n 0, 1) := by decide +kernel
theorem dX4_followed_33 : decode cX4_followed 33 = .ok (.iload_n 3, 1) := by decide +kernel
theorem dX4_followed_34 : decode cX4_followed 34 = .ok (.iload 4, 2) := by decide +kernel
theorem dX4_followed_36 : decode cX4_followed 36 = .ok (.invokevirtual 31, 3) := by decide +kernel
theorem dX4_followed_39 : decode cX4_followed 39 = .ok (.ireturn, 1) := by decide +kernel
theorem dX4_followed_40 : decode cX4_followed 40 = .ok (.aload_n 0, 1) := by decide +kernel
theorem dX4_followed_41 : decode cX4_followed 41 = .ok (.iload_n 1, 1) := by decide +kernel
theorem dX4_followed_42 : decode cX4_followed 42 = .ok (.iload 4, 2) := by decide +kernel
theorem dX4_followed_44 : decode cX4_followed 44 = .ok (.iload 5, 2) := by decide +kernel
theorem dX4_followed_46 : decode cX4_followed 46 = .ok (.isub, 1) := by decide +kernel
theorem dX4_followed_47 : decode cX4_followed 47 = .ok (.iconst 4, 1) := by decide +kernel
theorem dX4_followed_48 : decode cX4_followed 48 = .ok (.iadd, 1) := by decide +kernel
theorem dX4_followed_49 : decode cX4_followed 49 = .ok (.iconst 1, 1) := by decide +kernel
theorem dX4_followed_50 : decode cX4_followed 50 = .ok (.isub, 1) := by decide +kernel
theorem dX4_followed_51 : decode cX4_followed 51 = .ok (.iload 5, 2) := by decide +kernel
theorem dX4_followed_53 : decode cX4_followed 53 = .ok (.isub, 1) := by decide +kernel
theorem dX4_followed_54 : decode cX4_followed 54 = .ok (.invokevirtual 31, 3) := by decide +kernel
theorem dX4_followed_57 : decode cX4_followed 57 = .ok (.ireturn, 1) := by decide +kernel
theorem dX4_followed_58 : decode cX4_followed 58 = .ok (.aload_n 0, 1) := by decide +kernel
theorem dX4_followed_59 : decode cX4_followed 59 = .ok (.iload_n 1, 1) := by decide +kernel
theorem dX4_followed_60 : decode cX4_followed 60 = .ok (.bipush 20, 2) := by decide +kernel
theorem dX4_followed_62 : decode cX4_followed 62 = .ok (.iload 4, 2) := by decide +kernel
theorem dX4_followed_64 : decode cX4_followed 64 = .ok (.iload 5, 2) := by decide +kernel
theorem dX4_followed_66 : decode cX4_followed 66 = .ok (.isub, 1) := by decide +kernel
theorem dX4_followed_67 : decode cX4_followed 67 = .ok (.isub, 1) := by decide +kernel
theorem dX4_followed_68 : decode cX4_followed 68 = .ok (.iload 5, 2) := by decide +kernel
theorem dX4_followed_70 : decode cX4_followed 70 = .ok (.iadd, 1) := by decide +kernel
theorem dX4_followed_71 : decode cX4_followed 71 = .ok (.invokevirtual 31, 3) := by decide +kernel
theorem dX4_followed_74 : decode cX4_followed 74 = .ok (.ireturn, 1) := by decide +kernel
theorem dX4_followed_75 : decode cX4_followed 75 = .ok (.aload_n 0, 1) := by decide +kernel
theorem dX4_followed_76 : decode cX4_followed 76 = .ok (.iload_n 1, 1) := by decide +kernel
theorem dX4_followed_77 : decode cX4_followed 77 = .ok (.iload 4, 2) := by decide +kernel
theorem dX4_followed_79 : decode cX4_followed 79 = .ok (.invokevirtual 31, 3) := by decide +kernel
theorem dX4_followed_82 : decode cX4_followed 82 = .ok (.aload_n 0, 1) := by decide +kernel
theorem dX4_followed_83 : decode cX4_followed 83 = .ok (.iload_n 3, 1) := by decide +kernel
theorem dX4_followed_84 : decode cX4_followed 84 = .ok (.iload 4, 2) := by decide +kernel
theorem dX4_followed_86 : decode cX4_followed 86 = .ok (.invokevirtual 31, 3) := by decide +kernel
theorem dX4_followed_89 : decode cX4_followed 89 = .ok (.invokestatic 58, 3) := by decide +kernel
theorem dX4_followed_92 : decode cX4_followed 92 = .ok (.ireturn, 1) := by decide +kernel
theorem dX4_leaderIn_0 : decode cX4_leaderIn 0 = .ok (.aload_n 0, 1) := by decide +kernel
theorem dX4_leaderIn_1 : decode cX4_leaderIn 1 = .ok (.iload_n 1, 1) := by decide +kernel
theorem dX4_leaderIn_2 : decode cX4_leaderIn 2 = .ok (.iload_n 2, 1) := by decide +kernel
theorem dX4_leaderIn_3 : decode cX4_leaderIn 3 = .ok (.invokevirtual 31, 3) := by decide +kernel
theorem dX4_leaderIn_6 : decode cX4_leaderIn 6 = .ok (.istore_n 3, 1) := by decide +kernel
theorem dX4_leaderIn_7 : decode cX4_leaderIn 7 = .ok (.iconst 0, 1) := by decide +kernel
theorem dX4_leaderIn_8 : decode cX4_leaderIn 8 = .ok (.istore 4, 2) := by decide +kernel
theorem dX4_leaderIn_10 : decode cX4_leaderIn 10 = .ok (.iconst 0, 1) := by decide +kernel
theorem dX4_leaderIn_11 : decode cX4_leaderIn 11 = .ok (.istore 5, 2) := by decide +kernel
theorem dX4_leaderIn_13 : decode cX4_leaderIn 13 = .ok (.iload 5, 2) := by decide +kernel
theorem dX4_leaderIn_15 : decode cX4_leaderIn 15 = .ok (.iload_n 2, 1) := by decide +kernel
theorem dX4_leaderIn_16 : decode cX4_leaderIn 16 = .ok (.if_icmp .ge 30, 3) := by decide +kernel
theorem dX4_leaderIn_19 : decode cX4_leaderIn 19 = .ok (.aload_n 0, 1) := by decide +kernel
theorem dX4_leaderIn_20 : decode cX4_leaderIn 20 = .ok (.iload_n 1, 1) := by decide +kernel
theorem dX4_leaderIn_21 : decode cX4_leaderIn 21 = .ok (.iload 5, 2) := by decide +kernel
theorem dX4_leaderIn_23 : decode cX4_leaderIn 23 = .ok (.invokevirtual 31, 3) := by decide +kernel
theorem dX4_leaderIn_26 : decode cX4_leaderIn 26 = .ok (.iload_n 3, 1) := by decide +kernel
theorem dX4_leaderIn_27 : decode cX4_leaderIn 27 = .ok (.if_icmp .ne 13, 3) := by decide +kernel
theorem dX4_leaderIn_30 : decode cX4_leaderIn 30 = .ok (.aload_n 0, 1) := by decide +kernel
theorem dX4_leaderIn_31 : decode cX4_leaderIn 31 = .ok (.iload_n 1, 1) := by decide +kernel
theorem dX4_leaderIn_32 : decode cX4_leaderIn 32 = .ok (.iload_n 3, 1) := by decide +kernel
theorem dX4_leaderIn_33 : decode cX4_leaderIn 33 = .ok (.iload 4, 2) := by decide +kernel
theorem dX4_leaderIn_35 : decode cX4_leaderIn 35 = .ok (.invokevirtual 63, 3) := by decide +kernel
theorem dX4_leaderIn_38 : decode cX4_leaderIn 38 = .ok (.istore 4, 2) := by decide +kernel
theorem dX4_leaderIn_40 : decode cX4_leaderIn 40 = .ok (.iinc 5 1, 3) := by decide +kernel
theorem dX4_leaderIn_43 : decode cX4_leaderIn 43 = .ok (.goto (-30), 3) := by decide +kernel
theorem dX4_leaderIn_46 : decode cX4_leaderIn 46 = .ok (.iload 4, 2) := by decide +kernel
theorem dX4_leaderIn_48 : decode cX4_leaderIn 48 = .ok (.ireturn, 1) := by decide +kernel
theorem dX4_nextLeader_0 : decode cX4_nextLeader 0 = .ok (.iload_n 3, 1) := by decide +kernel
theorem dX4_nextLeader_1 : decode cX4_nextLeader 1 = .ok (.iconst 1, 1) := by decide +kernel
theorem dX4_nextLeader_2 : decode cX4_nextLeader 2 = .ok (.iadd, 1) := by decide +kernel
theorem dX4_nextLeader_3 : decode cX4_nextLeader 3 = .ok (.aload_n 0, 1) := by decide +kernel
theorem dX4_nextLeader_4 : decode cX4_nextLeader 4 = .ok (.iload_n 1, 1) := by decide +kernel
theorem dX4_nextLeader_5 : decode cX4_nextLeader 5 = .ok (.iload_n 2, 1) := by decide +kernel
theorem dX4_nextLeader_6 : decode cX4_nextLeader 6 = .ok (.invokevirtual 35, 3) := by decide +kernel
theorem dX4_nextLeader_9 : decode cX4_nextLeader 9 = .ok (.if_icmp .ge 9, 3) := by decide +kernel
theorem dX4_nextLeader_12 : decode cX4_nextLeader 12 = .ok (.iload_n 3, 1) := by decide +kernel
theorem dX4_nextLeader_13 : decode cX4_nextLeader 13 = .ok (.iconst 1, 1) := by decide +kernel
theorem dX4_nextLeader_14 : decode cX4_nextLeader 14 = .ok (.iadd, 1) := by decide +kernel
theorem dX4_nextLeader_15 : decode cX4_nextLeader 15 = .ok (.goto 4, 3) := by decide +kernel
theorem dX4_nextLeader_18 : decode cX4_nextLeader 18 = .ok (.iconst 0, 1) := by decide +kernel
theorem dX4_nextLeader_19 : decode cX4_nextLeader 19 = .ok (.ireturn, 1) := by decide +kernel
theorem dX4_ledBy_0 : decode cX4_ledBy 0 = .ok (.iconst 0, 1) := by decide +kernel
theorem dX4_ledBy_1 : decode cX4_ledBy 1 = .ok (.istore 5, 2) := by decide +kernel
theorem dX4_ledBy_3 : decode cX4_ledBy 3 = .ok (.iconst 0, 1) := by decide +kernel
theorem dX4_ledBy_4 : decode cX4_ledBy 4 = .ok (.istore 6, 2) := by decide +kernel
theorem dX4_ledBy_6 : decode cX4_ledBy 6 = .ok (.iconst 0, 1) := by decide +kernel
theorem dX4_ledBy_7 : decode cX4_ledBy 7 = .ok (.istore 7, 2) := by decide +kernel
theorem dX4_ledBy_9 : decode cX4_ledBy 9 = .ok (.iload 7, 2) := by decide +kernel
theorem dX4_ledBy_11 : decode cX4_ledBy 11 = .ok (.bipush 24, 2) := by decide +kernel
theorem dX4_ledBy_13 : decode cX4_ledBy 13 = .ok (.if_icmp .ge 57, 3) := by decide +kernel
theorem dX4_ledBy_16 : decode cX4_ledBy 16 = .ok (.aload_n 0, 1) := by decide +kernel
theorem dX4_ledBy_17 : decode cX4_ledBy 17 = .ok (.iload_n 1, 1) := by decide +kernel
theorem dX4_ledBy_18 : decode cX4_ledBy 18 = .ok (.iload 7, 2) := by decide +kernel
theorem dX4_ledBy_20 : decode cX4_ledBy 20 = .ok (.invokevirtual 31, 3) := by decide +kernel
theorem dX4_ledBy_23 : decode cX4_ledBy 23 = .ok (.iload_n 2, 1) := by decide +kernel
theorem dX4_ledBy_24 : decode cX4_ledBy 24 = .ok (.if_icmp .ne 40, 3) := by decide +kernel
theorem dX4_ledBy_27 : decode cX4_ledBy 27 = .ok (.iload 6, 2) := by decide +kernel
theorem dX4_ledBy_29 : decode cX4_ledBy 29 = .ok (.iload_n 3, 1) := by decide +kernel
theorem dX4_ledBy_30 : decode cX4_ledBy 30 = .ok (.if_icmp .ne 24, 3) := by decide +kernel
theorem dX4_ledBy_33 : decode cX4_ledBy 33 = .ok (.iload 5, 2) := by decide +kernel
theorem dX4_ledBy_35 : decode cX4_ledBy 35 = .ok (.iload 4, 2) := by decide +kernel
theorem dX4_ledBy_37 : decode cX4_ledBy 37 = .ok (.ifCond .eq 13, 3) := by decide +kernel
theorem dX4_ledBy_40 : decode cX4_ledBy 40 = .ok (.aload_n 0, 1) := by decide +kernel
theorem dX4_ledBy_41 : decode cX4_ledBy 41 = .ok (.getfield 9, 3) := by decide +kernel
theorem dX4_ledBy_44 : decode cX4_ledBy 44 = .ok (.iload 7, 2) := by decide +kernel
theorem dX4_ledBy_46 : decode cX4_ledBy 46 = .ok (.iaload, 1) := by decide +kernel
theorem dX4_ledBy_47 : decode cX4_ledBy 47 = .ok (.goto 4, 3) := by decide +kernel
theorem dX4_ledBy_50 : decode cX4_ledBy 50 = .ok (.iconst 1, 1) := by decide +kernel
theorem dX4_ledBy_51 : decode cX4_ledBy 51 = .ok (.iadd, 1) := by decide +kernel
theorem dX4_ledBy_52 : decode cX4_ledBy 52 = .ok (.istore 5, 2) := by decide +kernel
theorem dX4_ledBy_54 : decode cX4_ledBy 54 = .ok (.aload_n 0, 1) := by decide +kernel
theorem dX4_ledBy_55 : decode cX4_ledBy 55 = .ok (.iload_n 1, 1) := by decide +kernel
theorem dX4_ledBy_56 : decode cX4_ledBy 56 = .ok (.iload_n 2, 1) := by decide +kernel
theorem dX4_ledBy_57 : decode cX4_ledBy 57 = .ok (.iload 6, 2) := by decide +kernel
theorem dX4_ledBy_59 : decode cX4_ledBy 59 = .ok (.invokevirtual 63, 3) := by decide +kernel
theorem dX4_ledBy_62 : decode cX4_ledBy 62 = .ok (.istore 6, 2) := by decide +kernel
theorem dX4_ledBy_64 : decode cX4_ledBy 64 = .ok (.iinc 7 1, 3) := by decide +kernel
theorem dX4_ledBy_67 : decode cX4_ledBy 67 = .ok (.goto (-58), 3) := by decide +kernel
theorem dX4_ledBy_70 : decode cX4_ledBy 70 = .ok (.iload 5, 2) := by decide +kernel
theorem dX4_ledBy_72 : decode cX4_ledBy 72 = .ok (.ireturn, 1) := by decide +kernel
theorem dX5_init_0 : decode cX5_init 0 = .ok (.aload_n 0, 1) := by decide +kernel
theorem dX5_init_1 : decode cX5_init 1 = .ok (.invokespecial 1, 3) := by decide +kernel
theorem dX5_init_4 : decode cX5_init 4 = .ok (.aload_n 0, 1) := by decide +kernel
theorem dX5_init_5 : decode cX5_init 5 = .ok (.new 7, 3) := by decide +kernel
theorem dX5_init_8 : decode cX5_init 8 = .ok (.dup, 1) := by decide +kernel
theorem dX5_init_9 : decode cX5_init 9 = .ok (.invokespecial 9, 3) := by decide +kernel
theorem dX5_init_12 : decode cX5_init 12 = .ok (.putfield 10, 3) := by decide +kernel
theorem dX5_init_15 : decode cX5_init 15 = .ok (.aload_n 0, 1) := by decide +kernel
theorem dX5_init_16 : decode cX5_init 16 = .ok (.new 16, 3) := by decide +kernel
theorem dX5_init_19 : decode cX5_init 19 = .ok (.dup, 1) := by decide +kernel
theorem dX5_init_20 : decode cX5_init 20 = .ok (.invokespecial 18, 3) := by decide +kernel
theorem dX5_init_23 : decode cX5_init 23 = .ok (.putfield 19, 3) := by decide +kernel
theorem dX5_init_26 : decode cX5_init 26 = .ok (.aload_n 0, 1) := by decide +kernel
theorem dX5_init_27 : decode cX5_init 27 = .ok (.new 23, 3) := by decide +kernel
theorem dX5_init_30 : decode cX5_init 30 = .ok (.dup, 1) := by decide +kernel
theorem dX5_init_31 : decode cX5_init 31 = .ok (.invokespecial 25, 3) := by decide +kernel
theorem dX5_init_34 : decode cX5_init 34 = .ok (.putfield 26, 3) := by decide +kernel
theorem dX5_init_37 : decode cX5_init 37 = .ok (.aload_n 0, 1) := by decide +kernel
theorem dX5_init_38 : decode cX5_init 38 = .ok (.new 30, 3) := by decide +kernel
theorem dX5_init_41 : decode cX5_init 41 = .ok (.dup, 1) := by decide +kernel
theorem dX5_init_42 : decode cX5_init 42 = .ok (.invokespecial 32, 3) := by decide +kernel
theorem dX5_init_45 : decode cX5_init 45 = .ok (.putfield 33, 3) := by decide +kernel
theorem dX5_init_48 : decode cX5_init 48 = .ok (.aload_n 0, 1) := by decide +kernel
theorem dX5_init_49 : decode cX5_init 49 = .ok (.new 37, 3) := by decide +kernel
theorem dX5_init_52 : decode cX5_init 52 = .ok (.dup, 1) := by decide +kernel
theorem dX5_init_53 : decode cX5_init 53 = .ok (.invokespecial 39, 3) := by decide +kernel
theorem dX5_init_56 : decode cX5_init 56 = .ok (.putfield 40, 3) := by decide +kernel
theorem dX5_init_59 : decode cX5_init 59 = .ok (.aload_n 0, 1) := by decide +kernel
theorem dX5_init_60 : decode cX5_init 60 = .ok (.iconst 0, 1) := by decide +kernel
theorem dX5_init_61 : decode cX5_init 61 = .ok (.putfield 44, 3) := by decide +kernel
theorem dX5_init_64 : decode cX5_init 64 = .ok (.aload_n 0, 1) := by decide +kernel
theorem dX5_init_65 : decode cX5_init 65 = .ok (.iconst 0, 1) := by decide +kernel
theorem dX5_init_66 : decode cX5_init 66 = .ok (.putfield 48, 3) := by decide +kernel
theorem dX5_init_69 : decode cX5_init 69 = .ok (.aload_n 0, 1) := by decide +kernel
theorem dX5_init_70 : decode cX5_init 70 = .ok (.iconst 0, 1) := by decide +kernel
theorem dX5_init_71 : decode cX5_init 71 = .ok (.putfield 51, 3) := by decide +kernel
theorem dX5_init_74 : decode cX5_init 74 = .ok (.return_, 1) := by decide +kernel
theorem dX5_on_0 : decode cX5_on 0 = .ok (.iload_n 1, 1) := by decide +kernel
theorem dX5_on_1 : decode cX5_on 1 = .ok (.invokestatic 54, 3) := by decide +kernel
theorem dX5_on_4 : decode cX5_on 4 = .ok (.ifCond .eq 12, 3) := by decide +kernel
theorem dX5_on_7 : decode cX5_on 7 = .ok (.iload_n 2, 1) := by decide +kernel
theorem dX5_on_8 : decode cX5_on 8 = .ok (.iconst 0, 1) := by decide +kernel
theorem dX5_on_9 : decode cX5_on 9 = .ok (.iconst 1, 1) := by decide +kernel
theorem dX5_on_10 : decode cX5_on 10 = .ok (.invokestatic 58, 3) := by decide +kernel
theorem dX5_on_13 : decode cX5_on 13 = .ok (.ifCond .ne 8, 3) := by decide +kernel
theorem dX5_on_16 : decode cX5_on 16 = .ok (.aload_n 0, 1) := by decide +kernel
theorem dX5_on_17 : decode cX5_on 17 = .ok (.invokevirtual 62, 3) := by decide +kernel
theorem dX5_on_20 : decode cX5_on 20 = .ok (.ireturn, 1) := by decide +kernel
theorem dX5_on_21 : decode cX5_on 21 = .ok (.aload_n 0, 1) := by decide +kernel
theorem dX5_on_22 : decode cX5_on 22 = .ok (.getfield 19, 3) := by decide +kernel
theorem dX5_on_25 : decode cX5_on 25 = .ok (.aload_n 0, 1) := by decide +kernel
theorem dX5_on_26 : decode cX5_on 26 = .ok (.getfield 10, 3) := by decide +kernel
theorem dX5_on_29 : decode cX5_on 29 = .ok (.invokevirtual 66, 3) := by decide +kernel
theorem dX5_on_32 : decode cX5_on 32 = .ok (.pop, 1) := by decide +kernel
theorem dX5_on_33 : decode cX5_on 33 = .ok (.aload_n 0, 1) := by decide +kernel
theorem dX5_on_34 : decode cX5_on 34 = .ok (.getfield 10, 3) := by decide +kernel
theorem dX5_on_37 : decode cX5_on 37 = .ok (.iload_n 1, 1) := by decide +kernel
theorem dX5_on_38 : decode cX5_on 38 = .ok (.iload_n 2, 1) := by decide +kernel
theorem dX5_on_39 : decode cX5_on 39 = .ok (.invokevirtual 70, 3) := by decide +kernel
theorem dX5_on_42 : decode cX5_on 42 = .ok (.ireturn, 1) := by decide +kernel
theorem dX5_puts_0 : decode cX5_puts 0 = .ok (.iload_n 1, 1) := by decide +kernel
theorem dX5_puts_1 : decode cX5_puts 1 = .ok (.invokestatic 54, 3) := by decide +kernel
theorem dX5_puts_4 : decode cX5_puts 4 = .ok (.ifCond .eq 19, 3) := by decide +kernel
theorem dX5_puts_7 : decode cX5_puts 7 = .ok (.iload_n 2, 1) := by decide +kernel
theorem dX5_puts_8 : decode cX5_puts 8 = .ok (.invokestatic 74, 3) := by decide +kernel
theorem dX5_puts_11 : decode cX5_puts 11 = .ok (.ifCond .eq 12, 3) := by decide +kernel
theorem dX5_puts_14 : decode cX5_puts 14 = .ok (.iload_n 3, 1) := by decide +kernel
theorem dX5_puts_15 : decode cX5_puts 15 = .ok (.iload 4, 2) := by decide +kernel
theorem dX5_puts_17 : decode cX5_puts 17 = .ok (.invokestatic 77, 3) := by decide +kernel
theorem dX5_puts_20 : decode cX5_puts 20 = .ok (.ifCond .ne 8, 3) := by decide +kernel
theorem dX5_puts_23 : decode cX5_puts 23 = .ok (.aload_n 0, 1) := by decide +kernel
theorem dX5_puts_24 : decode cX5_puts 24 = .ok (.invokevirtual 62, 3) := by decide +kernel
theorem dX5_puts_27 : decode cX5_puts 27 = .ok (.ireturn, 1) := by decide +kernel
theorem dX5_puts_28 : decode cX5_puts 28 = .ok (.aload_n 0, 1) := by decide +kernel
theorem dX5_puts_29 : decode cX5_puts 29 = .ok (.getfield 19, 3) := by decide +kernel
theorem dX5_puts_32 : decode cX5_puts 32 = .ok (.aload_n 0, 1) := by decide +kernel
theorem dX5_puts_33 : decode cX5_puts 33 = .ok (.getfield 10, 3) := by decide +kernel
theorem dX5_puts_36 : decode cX5_puts 36 = .ok (.invokevirtual 66, 3) := by decide +kernel
theorem dX5_puts_39 : decode cX5_puts 39 = .ok (.pop, 1) := by decide +kernel
theorem dX5_puts_40 : decode cX5_puts 40 = .ok (.aload_n 0, 1) := by decide +kernel
theorem dX5_puts_41 : decode cX5_puts 41 = .ok (.getfield 10, 3) := by decide +kernel
theorem dX5_puts_44 : decode cX5_puts 44 = .ok (.iload_n 1, 1) := by decide +kernel
theorem dX5_puts_45 : decode cX5_puts 45 = .ok (.iload_n 2, 1) := by decide +kernel
theorem dX5_puts_46 : decode cX5_puts 46 = .ok (.iload_n 3, 1) := by decide +kernel
theorem dX5_puts_47 : decode cX5_puts 47 = .ok (.iload 4, 2) := by decide +kernel
theorem dX5_puts_49 : decode cX5_puts 49 = .ok (.invokevirtual 81, 3) := by decide +kernel
theorem dX5_puts_52 : decode cX5_puts 52 = .ok (.ireturn, 1) := by decide +kernel
theorem dX5_names_0 : decode cX5_names 0 = .ok (.iload_n 1, 1) := by decide +kernel
theorem dX5_names_1 : decode cX5_names 1 = .ok (.invokestatic 54, 3) := by decide +kernel
theorem dX5_names_4 : decode cX5_names 4 = .ok (.ifCond .eq 20, 3) := by decide +kernel
theorem dX5_names_7 : decode cX5_names 7 = .ok (.iload_n 2, 1) := by decide +kernel
theorem dX5_names_8 : decode cX5_names 8 = .ok (.invokestatic 74, 3) := by decide +kernel
theorem dX5_names_11 : decode cX5_names 11 = .ok (.ifCond .eq 13, 3) := by decide +kernel
theorem dX5_names_14 : decode cX5_names 14 = .ok (.iload_n 3, 1) := by decide +kernel
theorem dX5_names_15 : decode cX5_names 15 = .ok (.iconst 1, 1) := by decide +kernel
theorem dX5_names_16 : decode cX5_names 16 = .ok (.bipush 8, 2) := by decide +kernel
theorem dX5_names_18 : decode cX5_names 18 = .ok (.invokestatic 58, 3) := by decide +kernel
theorem dX5_names_21 : decode cX5_names 21 = .ok (.ifCond .ne 8, 3) := by decide +kernel
theorem dX5_names_24 : decode cX5_names 24 = .ok (.aload_n 0, 1) := by decide +kernel
theorem dX5_names_25 : decode cX5_names 25 = .ok (.invokevirtual 62, 3) := by decide +kernel
theorem dX5_names_28 : decode cX5_names 28 = .ok (.ireturn, 1) := by decide +kernel
theorem dX5_names_29 : decode cX5_names 29 = .ok (.aload_n 0, 1) := by decide +kernel
theorem dX5_names_30 : decode cX5_names 30 = .ok (.getfield 19, 3) := by decide +kernel
theorem dX5_names_33 : decode cX5_names 33 = .ok (.aload_n 0, 1) := by decide +kernel
theorem dX5_names_34 : decode cX5_names 34 = .ok (.getfield 10, 3) := by decide +kernel
theorem dX5_names_37 : decode cX5_names 37 = .ok (.invokevirtual 66, 3) := by decide +kernel
theorem dX5_names_40 : decode cX5_names 40 = .ok (.pop, 1) := by decide +kernel
theorem dX5_names_41 : decode cX5_names 41 = .ok (.aload_n 0, 1) := by decide +kernel
theorem dX5_names_42 : decode cX5_names 42 = .ok (.getfield 10, 3) := by decide +kernel
theorem dX5_names_45 : decode cX5_names 45 = .ok (.iload_n 1, 1) := by decide +kernel
theorem dX5_names_46 : decode cX5_names 46 = .ok (.iload_n 2, 1) := by decide +kernel
theorem dX5_names_47 : decode cX5_names 47 = .ok (.iload_n 3, 1) := by decide +kernel
theorem dX5_names_48 : decode cX5_names 48 = .ok (.invokevirtual 85, 3) := by decide +kernel
theorem dX5_names_51 : decode cX5_names 51 = .ok (.ireturn, 1) := by decide +kernel
theorem dX5_voters_0 : decode cX5_voters 0 = .ok (.iload_n 1, 1) := by decide +kernel
theorem dX5_voters_1 : decode cX5_voters 1 = .ok (.invokestatic 89, 3) := by decide +kernel
theorem dX5_voters_4 : decode cX5_voters 4 = .ok (.ifCond .eq 13, 3) := by decide +kernel
theorem dX5_voters_7 : decode cX5_voters 7 = .ok (.iload_n 2, 1) := by decide +kernel
theorem dX5_voters_8 : decode cX5_voters 8 = .ok (.iconst 0, 1) := by decide +kernel
theorem dX5_voters_9 : decode cX5_voters 9 = .ok (.bipush 99, 2) := by decide +kernel
theorem dX5_voters_11 : decode cX5_voters 11 = .ok (.invokestatic 58, 3) := by decide +kernel
theorem dX5_voters_14 : decode cX5_voters 14 = .ok (.ifCond .ne 8, 3) := by decide +kernel
theorem dX5_voters_17 : decode cX5_voters 17 = .ok (.aload_n 0, 1) := by decide +kernel
theorem dX5_voters_18 : decode cX5_voters 18 = .ok (.invokevirtual 62, 3) := by decide +kernel
theorem dX5_voters_21 : decode cX5_voters 21 = .ok (.ireturn, 1) := by decide +kernel
theorem dX5_voters_22 : decode cX5_voters 22 = .ok (.aload_n 0, 1) := by decide +kernel
theorem dX5_voters_23 : decode cX5_voters 23 = .ok (.getfield 19, 3) := by decide +kernel
theorem dX5_voters_26 : decode cX5_voters 26 = .ok (.aload_n 0, 1) := by decide +kernel
theorem dX5_voters_27 : decode cX5_voters 27 = .ok (.getfield 10, 3) := by decide +kernel
theorem dX5_voters_30 : decode cX5_voters 30 = .ok (.invokevirtual 66, 3) := by decide +kernel
theorem dX5_voters_33 : decode cX5_voters 33 = .ok (.pop, 1) := by decide +kernel
theorem dX5_voters_34 : decode cX5_voters 34 = .ok (.aload_n 0, 1) := by decide +kernel
theorem dX5_voters_35 : decode cX5_voters 35 = .ok (.getfield 10, 3) := by decide +kernel
theorem dX5_voters_38 : decode cX5_voters 38 = .ok (.iload_n 1, 1) := by decide +kernel
theorem dX5_voters_39 : decode cX5_voters 39 = .ok (.iload_n 2, 1) := by decide +kernel
theorem dX5_voters_40 : decode cX5_voters 40 = .ok (.invokevirtual 92, 3) := by decide +kernel
theorem dX5_voters_43 : decode cX5_voters 43 = .ok (.ireturn, 1) := by decide +kernel
theorem dX5_draw_0 : decode cX5_draw 0 = .ok (.iload_n 1, 1) := by decide +kernel
theorem dX5_draw_1 : decode cX5_draw 1 = .ok (.invokestatic 54, 3) := by decide +kernel
theorem dX5_draw_4 : decode cX5_draw 4 = .ok (.ifCond .eq 23, 3) := by decide +kernel
theorem dX5_draw_7 : decode cX5_draw 7 = .ok (.iload_n 2, 1) := by decide +kernel
theorem dX5_draw_8 : decode cX5_draw 8 = .ok (.iconst 0, 1) := by decide +kernel
theorem dX5_draw_9 : decode cX5_draw 9 = .ok (.ldc 95, 2) := by decide +kernel
theorem dX5_draw_11 : decode cX5_draw 11 = .ok (.invokestatic 58, 3) := by decide +kernel
theorem dX5_draw_14 : decode cX5_draw 14 = .ok (.ifCond .eq 13, 3) := by decide +kernel
theorem dX5_draw_17 : decode cX5_draw 17 = .ok (.iload_n 3, 1) := by decide +kernel
theorem dX5_draw_18 : decode cX5_draw 18 = .ok (.iconst 1, 1) := by decide +kernel
theorem dX5_draw_19 : decode cX5_draw 19 = .ok (.bipush 6, 2) := by decide +kernel
theorem dX5_draw_21 : decode cX5_draw 21 = .ok (.invokestatic 58, 3) := by decide +kernel
theorem dX5_draw_24 : decode cX5_draw 24 = .ok (.ifCond .ne 8, 3) := by decide +kernel
theorem dX5_draw_27 : decode cX5_draw 27 = .ok (.aload_n 0, 1) := by decide +kernel
theorem dX5_draw_28 : decode cX5_draw 28 = .ok (.invokevirtual 62, 3) := by decide +kernel
theorem dX5_draw_31 : decode cX5_draw 31 = .ok (.ireturn, 1) := by decide +kernel
theorem dX5_draw_32 : decode cX5_draw 32 = .ok (.aload_n 0, 1) := by decide +kernel
theorem dX5_draw_33 : decode cX5_draw 33 = .ok (.getfield 19, 3) := by decide +kernel
theorem dX5_draw_36 : decode cX5_draw 36 = .ok (.aload_n 0, 1) := by decide +kernel
theorem dX5_draw_37 : decode cX5_draw 37 = .ok (.getfield 10, 3) := by decide +kernel
theorem dX5_draw_40 : decode cX5_draw 40 = .ok (.invokevirtual 66, 3) := by decide +kernel
theorem dX5_draw_43 : decode cX5_draw 43 = .ok (.pop, 1) := by decide +kernel
theorem dX5_draw_44 : decode cX5_draw 44 = .ok (.aload_n 0, 1) := by decide +kernel
theorem dX5_draw_45 : decode cX5_draw 45 = .ok (.getfield 10, 3) := by decide +kernel
theorem dX5_draw_48 : decode cX5_draw 48 = .ok (.iload_n 1, 1) := by decide +kernel
theorem dX5_draw_49 : decode cX5_draw 49 = .ok (.iload_n 2, 1) := by decide +kernel
theorem dX5_draw_50 : decode cX5_draw 50 = .ok (.iload_n 3, 1) := by decide +kernel
theorem dX5_draw_51 : decode cX5_draw 51 = .ok (.invokevirtual 96, 3) := by decide +kernel
theorem dX5_draw_54 : decode cX5_draw 54 = .ok (.ireturn, 1) := by decide +kernel
theorem dX5_follows_0 : decode cX5_follows 0 = .ok (.iload_n 1, 1) := by decide +kernel
theorem dX5_follows_1 : decode cX5_follows 1 = .ok (.invokestatic 54, 3) := by decide +kernel
theorem dX5_follows_4 : decode cX5_follows 4 = .ok (.ifCond .eq 19, 3) := by decide +kernel
theorem dX5_follows_7 : decode cX5_follows 7 = .ok (.iload_n 2, 1) := by decide +kernel
theorem dX5_follows_8 : decode cX5_follows 8 = .ok (.iconst 0, 1) := by decide +kernel
theorem dX5_follows_9 : decode cX5_follows 9 = .ok (.iconst 3, 1) := by decide +kernel
theorem dX5_follows_10 : decode cX5_follows 10 = .ok (.invokestatic 58, 3) := by decide +kernel
theorem dX5_follows_13 : decode cX5_follows 13 = .ok (.ifCond .eq 10, 3) := by decide +kernel
theorem dX5_follows_16 : decode cX5_follows 16 = .ok (.iload_n 3, 1) := by decide +kernel
theorem dX5_follows_17 : decode cX5_follows 17 = .ok (.invokestatic 54, 3) := by decide +kernel
theorem dX5_follows_20 : decode cX5_follows 20 = .ok (.ifCond .ne 8, 3) := by decide +kernel
theorem dX5_follows_23 : decode cX5_follows 23 = .ok (.aload_n 0, 1) := by decide +kernel
theorem dX5_follows_24 : decode cX5_follows 24 = .ok (.invokevirtual 62, 3) := by decide +kernel
theorem dX5_follows_27 : decode cX5_follows 27 = .ok (.ireturn, 1) := by decide +kernel
theorem dX5_follows_28 : decode cX5_follows 28 = .ok (.aload_n 0, 1) := by decide +kernel
theorem dX5_follows_29 : decode cX5_follows 29 = .ok (.getfield 10, 3) := by decide +kernel
theorem dX5_follows_32 : decode cX5_follows 32 = .ok (.aload_n 0, 1) := by decide +kernel
theorem dX5_follows_33 : decode cX5_follows 33 = .ok (.getfield 19, 3) := by decide +kernel
theorem dX5_follows_36 : decode cX5_follows 36 = .ok (.aload_n 0, 1) := by decide +kernel
theorem dX5_follows_37 : decode cX5_follows 37 = .ok (.getfield 10, 3) := by decide +kernel
theorem dX5_follows_40 : decode cX5_follows 40 = .ok (.invokevirtual 66, 3) := by decide +kernel
theorem dX5_follows_43 : decode cX5_follows 43 = .ok (.iload_n 1, 1) := by decide +kernel
theorem dX5_follows_44 : decode cX5_follows 44 = .ok (.iload_n 2, 1) := by decide +kernel
theorem dX5_follows_45 : decode cX5_follows 45 = .ok (.iload_n 3, 1) := by decide +kernel
theorem dX5_follows_46 : decode cX5_follows 46 = .ok (.invokevirtual 99, 3) := by decide +kernel
theorem dX5_follows_49 : decode cX5_follows 49 = .ok (.ireturn, 1) := by decide +kernel
theorem dX5_undo_0 : decode cX5_undo 0 = .ok (.aload_n 0, 1) := by decide +kernel
theorem dX5_undo_1 : decode cX5_undo 1 = .ok (.getfield 19, 3) := by decide +kernel
theorem dX5_undo_4 : decode cX5_undo 4 = .ok (.getfield 103, 3) := by decide +kernel
theorem dX5_undo_7 : decode cX5_undo 7 = .ok (.ifCond .ne 8, 3) := by decide +kernel
theorem dX5_undo_10 : decode cX5_undo 10 = .ok (.aload_n 0, 1) := by decide +kernel
theorem dX5_undo_11 : decode cX5_undo 11 = .ok (.invokevirtual 106, 3) := by decide +kernel
theorem dX5_undo_14 : decode cX5_undo 14 = .ok (.ireturn, 1) := by decide +kernel
theorem dX5_undo_15 : decode cX5_undo 15 = .ok (.aload_n 0, 1) := by decide +kernel
theorem dX5_undo_16 : decode cX5_undo 16 = .ok (.getfield 19, 3) := by decide +kernel
theorem dX5_undo_19 : decode cX5_undo 19 = .ok (.aload_n 0, 1) := by decide +kernel
theorem dX5_undo_20 : decode cX5_undo 20 = .ok (.getfield 10, 3) := by decide +kernel
theorem dX5_undo_23 : decode cX5_undo 23 = .ok (.invokevirtual 109, 3) := by decide +kernel
theorem dX5_undo_26 : decode cX5_undo 26 = .ok (.ireturn, 1) := by decide +kernel
theorem dX5_of_0 : decode cX5_of 0 = .ok (.iload_n 1, 1) := by decide +kernel
theorem dX5_of_1 : decode cX5_of 1 = .ok (.invokestatic 89, 3) := by decide +kernel
theorem dX5_of_4 : decode cX5_of 4 = .ok (.ifCond .eq 12, 3) := by decide +kernel
theorem dX5_of_7 : decode cX5_of 7 = .ok (.iload_n 2, 1) := by decide +kernel
theorem dX5_of_8 : decode cX5_of 8 = .ok (.iconst 0, 1) := by decide +kernel
theorem dX5_of_9 : decode cX5_of 9 = .ok (.iconst 5, 1) := by decide +kernel
theorem dX5_of_10 : decode cX5_of 10 = .ok (.invokestatic 58, 3) := by decide +kernel
theorem dX5_of_13 : decode cX5_of 13 = .ok (.ifCond .ne 8, 3) := by decide +kernel
theorem dX5_of_16 : decode cX5_of 16 = .ok (.aload_n 0, 1) := by decide +kernel
theorem dX5_of_17 : decode cX5_of 17 = .ok (.invokevirtual 62, 3) := by decide +kernel
theorem dX5_of_20 : decode cX5_of 20 = .ok (.ireturn, 1) := by decide +kernel
theorem dX5_of_21 : decode cX5_of 21 = .ok (.iload_n 2, 1) := by decide +kernel
theorem dX5_of_22 : decode cX5_of 22 = .ok (.ifCond .ne 13, 3) := by decide +kernel
theorem dX5_of_25 : decode cX5_of 25 = .ok (.aload_n 0, 1) := by decide +kernel
theorem dX5_of_26 : decode cX5_of 26 = .ok (.getfield 10, 3) := by decide +kernel
theorem dX5_of_29 : decode cX5_of 29 = .ok (.getfield 113, 3) := by decide +kernel
theorem dX5_of_32 : decode cX5_of 32 = .ok (.iload_n 1, 1) := by decide +kernel
theorem dX5_of_33 : decode cX5_of 33 = .ok (.iaload, 1) := by decide +kernel
theorem dX5_of_34 : decode cX5_of 34 = .ok (.ireturn, 1) := by decide +kernel
theorem dX5_of_35 : decode cX5_of 35 = .ok (.iload_n 2, 1) := by decide +kernel
theorem dX5_of_36 : decode cX5_of 36 = .ok (.iconst 1, 1) := by decide +kernel
theorem dX5_of_37 : decode cX5_of 37 = .ok (.if_icmp .ne 17, 3) := by decide +kernel
theorem dX5_of_40 : decode cX5_of 40 = .ok (.aload_n 0, 1) := by decide +kernel
theorem dX5_of_41 : decode cX5_of 41 = .ok (.invokevirtual 117, 3) := by decide +kernel
theorem dX5_of_44 : decode cX5_of 44 = .ok (.aload_n 0, 1) := by decide +kernel
theorem dX5_of_45 : decode cX5_of 45 = .ok (.getfield 26, 3) := by decide +kernel
theorem dX5_of_48 : decode cX5_of 48 = .ok (.getfield 120, 3) := by decide +kernel
theorem dX5_of_51 : decode cX5_of 51 = .ok (.iload_n 1, 1) := by decide +kernel
theorem dX5_of_52 : decode cX5_of 52 = .ok (.iaload, 1) := by decide +kernel
theorem dX5_of_53 : decode cX5_of 53 = .ok (.ireturn, 1) := by decide +kernel
theorem dX5_of_54 : decode cX5_of 54 = .ok (.aload_n 0, 1) := by decide +kernel
theorem dX5_of_55 : decode cX5_of 55 = .ok (.getfield 10, 3) := by decide +kernel
theorem dX5_of_58 : decode cX5_of 58 = .ok (.iload_n 2, 1) := by decide +kernel
theorem dX5_of_59 : decode cX5_of 59 = .ok (.iconst 2, 1) := by decide +kernel
theorem dX5_of_60 : decode cX5_of 60 = .ok (.isub, 1) := by decide +kernel
theorem dX5_of_61 : decode cX5_of 61 = .ok (.iload_n 1, 1) := by decide +kernel
theorem dX5_of_62 : decode cX5_of 62 = .ok (.invokevirtual 123, 3) := by decide +kernel
theorem dX5_of_65 : decode cX5_of 65 = .ok (.ireturn, 1) := by decide +kernel
theorem dX5_type_0 : decode cX5_type 0 = .ok (.iload_n 1, 1) := by decide +kernel
theorem dX5_type_1 : decode cX5_type 1 = .ok (.iconst 0, 1) := by decide +kernel
theorem dX5_type_2 : decode cX5_type 2 = .ok (.bipush 127, 2) := by decide +kernel
theorem dX5_type_4 : decode cX5_type 4 = .ok (.invokestatic 58, 3) := by decide +kernel
theorem dX5_type_7 : decode cX5_type 7 = .ok (.ifCond .ne 8, 3) := by decide +kernel
theorem dX5_type_10 : decode cX5_type 10 = .ok (.aload_n 0, 1) := by decide +kernel
theorem dX5_type_11 : decode cX5_type 11 = .ok (.invokevirtual 62, 3) := by decide +kernel
theorem dX5_type_14 : decode cX5_type 14 = .ok (.ireturn, 1) := by decide +kernel
theorem dX5_type_15 : decode cX5_type 15 = .ok (.aload_n 0, 1) := by decide +kernel
theorem dX5_type_16 : decode cX5_type 16 = .ok (.getfield 40, 3) := by decide +kernel
theorem dX5_type_19 : decode cX5_type 19 = .ok (.invokevirtual 126, 3) := by decide +kernel
theorem dX5_type_22 : decode cX5_type 22 = .ok (.ifCond .eq 8, 3) := by decide +kernel
theorem dX5_type_25 : decode cX5_type 25 = .ok (.aload_n 0, 1) := by decide +kernel
theorem dX5_type_26 : decode cX5_type 26 = .ok (.invokevirtual 130, 3) := by decide +kernel
theorem dX5_type_29 : decode cX5_type 29 = .ok (.ireturn, 1) := by decide +kernel
theorem dX5_type_30 : decode cX5_type 30 = .ok (.aload_n 0, 1) := by decide +kernel
theorem dX5_type_31 : decode cX5_type 31 = .ok (.getfield 40, 3) := by decide +kernel
theorem dX5_type_34 : decode cX5_type 34 = .ok (.iload_n 1, 1) := by decide +kernel
theorem dX5_type_35 : decode cX5_type 35 = .ok (.invokevirtual 133, 3) := by decide +kernel
theorem dX5_type_38 : decode cX5_type 38 = .ok (.ireturn, 1) := by decide +kernel
theorem dX5_clear_0 : decode cX5_clear 0 = .ok (.aload_n 0, 1) := by decide +kernel
theorem dX5_clear_1 : decode cX5_clear 1 = .ok (.getfield 40, 3) := by decide +kernel
theorem dX5_clear_4 : decode cX5_clear 4 = .ok (.invokevirtual 137, 3) := by decide +kernel
theorem dX5_clear_7 : decode cX5_clear 7 = .ok (.ireturn, 1) := by decide +kernel
theorem dX5_does_0 : decode cX5_does 0 = .ok (.aload_n 0, 1) := by decide +kernel
theorem dX5_does_1 : decode cX5_does 1 = .ok (.getfield 40, 3) := by decide +kernel
theorem dX5_does_4 : decode cX5_does 4 = .ok (.invokevirtual 140, 3) := by decide +kernel
theorem dX5_does_7 : decode cX5_does 7 = .ok (.istore_n 1, 1) := by decide +kernel
theorem dX5_does_8 : decode cX5_does 8 = .ok (.iload_n 1, 1) := by decide +kernel
theorem dX5_does_9 : decode cX5_does 9 = .ok (.iconst (-1), 1) := by decide +kernel
theorem dX5_does_10 : decode cX5_does 10 = .ok (.if_icmp .eq 8, 3) := by decide +kernel
theorem dX5_does_13 : decode cX5_does 13 = .ok (.bipush (-10), 2) := by decide +kernel
theorem dX5_does_15 : decode cX5_does 15 = .ok (.iload_n 1, 1) := by decide +kernel
theorem dX5_does_16 : decode cX5_does 16 = .ok (.isub, 1) := by decide +kernel
theorem dX5_does_17 : decode cX5_does 17 = .ok (.ireturn, 1) := by decide +kernel
theorem dX5_does_18 : decode cX5_does 18 = .ok (.aload_n 0, 1) := by decide +kernel
theorem dX5_does_19 : decode cX5_does 19 = .ok (.getfield 19, 3) := by decide +kernel
theorem dX5_does_22 : decode cX5_does 22 = .ok (.aload_n 0, 1) := by decide +kernel
theorem dX5_does_23 : decode cX5_does 23 = .ok (.getfield 10, 3) := by decide +kernel
theorem dX5_does_26 : decode cX5_does 26 = .ok (.invokevirtual 66, 3) := by decide +kernel
theorem dX5_does_29 : decode cX5_does 29 = .ok (.pop, 1) := by decide +kernel
theorem dX5_does_30 : decode cX5_does 30 = .ok (.iconst 0, 1) := by decide +kernel
theorem dX5_does_31 : decode cX5_does 31 = .ok (.istore_n 2, 1) := by decide +kernel
theorem dX5_does_32 : decode cX5_does 32 = .ok (.iload_n 2, 1) := by decide +kernel
theorem dX5_does_33 : decode cX5_does 33 = .ok (.aload_n 0, 1) := by decide +kernel
theorem dX5_does_34 : decode cX5_does 34 = .ok (.getfield 40, 3) := by decide +kernel
theorem dX5_does_37 : decode cX5_does 37 = .ok (.getfield 143, 3) := by decide +kernel
theorem dX5_does_40 : decode cX5_does 40 = .ok (.if_icmp .ge 21, 3) := by decide +kernel
theorem dX5_does_43 : decode cX5_does 43 = .ok (.aload_n 0, 1) := by decide +kernel
theorem dX5_does_44 : decode cX5_does 44 = .ok (.getfield 40, 3) := by decide +kernel
theorem dX5_does_47 : decode cX5_does 47 = .ok (.iload_n 2, 1) := by decide +kernel
theorem dX5_does_48 : decode cX5_does 48 = .ok (.aload_n 0, 1) := by decide +kernel
theorem dX5_does_49 : decode cX5_does 49 = .ok (.getfield 10, 3) := by decide +kernel
theorem dX5_does_52 : decode cX5_does 52 = .ok (.invokevirtual 144, 3) := by decide +kernel
theorem dX5_does_55 : decode cX5_does 55 = .ok (.iinc 2 1, 3) := by decide +kernel
theorem dX5_does_58 : decode cX5_does 58 = .ok (.goto (-26), 3) := by decide +kernel
theorem dX5_does_61 : decode cX5_does 61 = .ok (.aload_n 0, 1) := by decide +kernel
theorem dX5_does_62 : decode cX5_does 62 = .ok (.getfield 40, 3) := by decide +kernel
theorem dX5_does_65 : decode cX5_does 65 = .ok (.getfield 143, 3) := by decide +kernel
theorem dX5_does_68 : decode cX5_does 68 = .ok (.ireturn, 1) := by decide +kernel
theorem dX5_styles_0 : decode cX5_styles 0 = .ok (.aload_n 0, 1) := by decide +kernel
theorem dX5_styles_1 : decode cX5_styles 1 = .ok (.invokevirtual 117, 3) := by decide +kernel
theorem dX5_styles_4 : decode cX5_styles 4 = .ok (.aload_n 0, 1) := by decide +kernel
theorem dX5_styles_5 : decode cX5_styles 5 = .ok (.getfield 26, 3) := by decide +kernel
theorem dX5_styles_8 : decode cX5_styles 8 = .ok (.getfield 148, 3) := by decide +kernel
theorem dX5_styles_11 : decode cX5_styles 11 = .ok (.ireturn, 1) := by decide +kernel
theorem dX5_style_0 : decode cX5_style 0 = .ok (.aload_n 0, 1) := by decide +kernel
theorem dX5_style_1 : decode cX5_style 1 = .ok (.iload_n 1, 1) := by decide +kernel
theorem dX5_style_2 : decode cX5_style 2 = .ok (.invokevirtual 149, 3) := by decide +kernel
theorem dX5_style_5 : decode cX5_style 5 = .ok (.ifCond .ne 8, 3) := by decide +kernel
theorem dX5_style_8 : decode cX5_style 8 = .ok (.aload_n 0, 1) := by decide +kernel
theorem dX5_style_9 : decode cX5_style 9 = .ok (.invokevirtual 62, 3) := by decide +kernel
theorem dX5_style_12 : decode cX5_style 12 = .ok (.ireturn, 1) := by decide +kernel
theorem dX5_style_13 : decode cX5_style 13 = .ok (.iload_n 2, 1) := by decide +kernel
theorem dX5_style_14 : decode cX5_style 14 = .ok (.tableswitch 86 0 4 #[34, 43, 56, 65, 76], 34) := by decide +kernel
theorem dX5_style_48 : decode cX5_style 48 = .ok (.aload_n 0, 1) := by decide +kernel
theorem dX5_style_49 : decode cX5_style 49 = .ok (.getfield 26, 3) := by decide +kernel
theorem dX5_style_52 : decode cX5_style 52 = .ok (.iload_n 1, 1) := by decide +kernel
theorem dX5_style_53 : decode cX5_style 53 = .ok (.invokevirtual 152, 3) := by decide +kernel
theorem dX5_style_56 : decode cX5_style 56 = .ok (.ireturn, 1) := by decide +kernel
theorem dX5_style_57 : decode cX5_style 57 = .ok (.aload_n 0, 1) := by decide +kernel
theorem dX5_style_58 : decode cX5_style 58 = .ok (.getfield 26, 3) := by decide +kernel
theorem dX5_style_61 : decode cX5_style 61 = .ok (.iload_n 1, 1) := by decide +kernel
theorem dX5_style_62 : decode cX5_style 62 = .ok (.aload_n 0, 1) := by decide +kernel
theorem dX5_style_63 : decode cX5_style 63 = .ok (.getfield 10, 3) := by decide +kernel
theorem dX5_style_66 : decode cX5_style 66 = .ok (.invokevirtual 155, 3) := by decide +kernel
theorem dX5_style_69 : decode cX5_style 69 = .ok (.ireturn, 1) := by decide +kernel
theorem dX5_style_70 : decode cX5_style 70 = .ok (.aload_n 0, 1) := by decide +kernel
theorem dX5_style_71 : decode cX5_style 71 = .ok (.getfield 26, 3) := by decide +kernel
theorem dX5_style_74 : decode cX5_style 74 = .ok (.iload_n 1, 1) := by decide +kernel
theorem dX5_style_75 : decode cX5_style 75 = .ok (.invokevirtual 159, 3) := by decide +kernel
theorem dX5_style_78 : decode cX5_style 78 = .ok (.ireturn, 1) := by decide +kernel
theorem dX5_style_79 : decode cX5_style 79 = .ok (.aload_n 0, 1) := by decide +kernel
theorem dX5_style_80 : decode cX5_style 80 = .ok (.getfield 10, 3) := by decide +kernel
theorem dX5_style_83 : decode cX5_style 83 = .ok (.getfield 162, 3) := by decide +kernel
theorem dX5_style_86 : decode cX5_style 86 = .ok (.invokestatic 165, 3) := by decide +kernel
theorem dX5_style_89 : decode cX5_style 89 = .ok (.ireturn, 1) := by decide +kernel
theorem dX5_style_90 : decode cX5_style 90 = .ok (.aload_n 0, 1) := by decide +kernel
theorem dX5_style_91 : decode cX5_style 91 = .ok (.getfield 26, 3) := by decide +kernel
theorem dX5_style_94 : decode cX5_style 94 = .ok (.getfield 170, 3) := by decide +kernel
theorem dX5_style_97 : decode cX5_style 97 = .ok (.iload_n 1, 1) := by decide +kernel
theorem dX5_style_98 : decode cX5_style 98 = .ok (.iaload, 1) := by decide +kernel
theorem dX5_style_99 : decode cX5_style 99 = .ok (.ireturn, 1) := by decide +kernel
theorem dX5_style_100 : decode cX5_style 100 = .ok (.aload_n 0, 1) := by decide +kernel
theorem dX5_style_101 : decode cX5_style 101 = .ok (.invokevirtual 62, 3) := by decide +kernel
theorem dX5_style_104 : decode cX5_style 104 = .ok (.ireturn, 1) := by decide +kernel
theorem dX5_without_0 : decode cX5_without 0 = .ok (.iload_n 1, 1) := by decide +kernel
theorem dX5_without_1 : decode cX5_without 1 = .ok (.invokestatic 54, 3) := by decide +kernel
theorem dX5_without_4 : decode cX5_without 4 = .ok (.ifCond .ne 8, 3) := by decide +kernel
theorem dX5_without_7 : decode cX5_without 7 = .ok (.aload_n 0, 1) := by decide +kernel
theorem dX5_without_8 : decode cX5_without 8 = .ok (.invokevirtual 62, 3) := by decide +kernel
theorem dX5_without_11 : decode cX5_without 11 = .ok (.ireturn, 1) := by decide +kernel
theorem dX5_without_12 : decode cX5_without 12 = .ok (.aload_n 0, 1) := by decide +kernel
theorem dX5_without_13 : decode cX5_without 13 = .ok (.getfield 26, 3) := by decide +kernel
theorem dX5_without_16 : decode cX5_without 16 = .ok (.aload_n 0, 1) := by decide +kernel
theorem dX5_without_17 : decode cX5_without 17 = .ok (.getfield 10, 3) := by decide +kernel
theorem dX5_without_20 : decode cX5_without 20 = .ok (.aload_n 0, 1) := by decide +kernel
theorem dX5_without_21 : decode cX5_without 21 = .ok (.getfield 10, 3) := by decide +kernel
theorem dX5_without_24 : decode cX5_without 24 = .ok (.getfield 162, 3) := by decide +kernel
theorem dX5_without_27 : decode cX5_without 27 = .ok (.iconst 1, 1) := by decide +kernel
theorem dX5_without_28 : decode cX5_without 28 = .ok (.iload_n 1, 1) := by decide +kernel
theorem dX5_without_29 : decode cX5_without 29 = .ok (.ishl, 1) := by decide +kernel
theorem dX5_without_30 : decode cX5_without 30 = .ok (.ixor, 1) := by decide +kernel
theorem dX5_without_31 : decode cX5_without 31 = .ok (.invokevirtual 173, 3) := by decide +kernel
theorem dX5_without_34 : decode cX5_without 34 = .ok (.aload_n 0, 1) := by decide +kernel
theorem dX5_without_35 : decode cX5_without 35 = .ok (.getfield 26, 3) := by decide +kernel
theorem dX5_without_38 : decode cX5_without 38 = .ok (.getfield 148, 3) := by decide +kernel
theorem dX5_without_41 : decode cX5_without 41 = .ok (.ireturn, 1) := by decide +kernel
theorem dX5_border_0 : decode cX5_border 0 = .ok (.aload_n 0, 1) := by decide +kernel
theorem dX5_border_1 : decode cX5_border 1 = .ok (.invokevirtual 117, 3) := by decide +kernel
theorem dX5_border_4 : decode cX5_border 4 = .ok (.aload_n 0, 1) := by decide +kernel
theorem dX5_border_5 : decode cX5_border 5 = .ok (.getfield 26, 3) := by decide +kernel
theorem dX5_border_8 : decode cX5_border 8 = .ok (.invokevirtual 177, 3) := by decide +kernel
theorem dX5_border_11 : decode cX5_border 11 = .ok (.ireturn, 1) := by decide +kernel
theorem dX5_beside_0 : decode cX5_beside 0 = .ok (.aload_n 0, 1) := by decide +kernel
theorem dX5_beside_1 : decode cX5_beside 1 = .ok (.iload_n 1, 1) := by decide +kernel
theorem dX5_beside_2 : decode cX5_beside 2 = .ok (.invokevirtual 149, 3) := by decide +kernel
theorem dX5_beside_5 : decode cX5_beside 5 = .ok (.ifCond .eq 16, 3) := by decide +kernel
theorem dX5_beside_8 : decode cX5_beside 8 = .ok (.aload_n 0, 1) := by decide +kernel
theorem dX5_beside_9 : decode cX5_beside 9 = .ok (.iload_n 2, 1) := by decide +kernel
theorem dX5_beside_10 : decode cX5_beside 10 = .ok (.invokevirtual 149, 3) := by decide +kernel
theorem dX5_beside_13 : decode cX5_beside 13 = .ok (.ifCond .eq 8, 3) := by decide +kernel
theorem dX5_beside_16 : decode cX5_beside 16 = .ok (.iload_n 1, 1) := by decide +kernel
theorem dX5_beside_17 : decode cX5_beside 17 = .ok (.iload_n 2, 1) := by decide +kernel
theorem dX5_beside_18 : decode cX5_beside 18 = .ok (.if_icmp .ne 8, 3) := by decide +kernel
theorem dX5_beside_21 : decode cX5_beside 21 = .ok (.aload_n 0, 1) := by decide +kernel
theorem dX5_beside_22 : decode cX5_beside 22 = .ok (.invokevirtual 62, 3) := by decide +kernel
theorem dX5_beside_25 : decode cX5_beside 25 = .ok (.ireturn, 1) := by decide +kernel
theorem dX5_beside_26 : decode cX5_beside 26 = .ok (.aload_n 0, 1) := by decide +kernel
theorem dX5_beside_27 : decode cX5_beside 27 = .ok (.getfield 26, 3) := by decide +kernel
theorem dX5_beside_30 : decode cX5_beside 30 = .ok (.iload_n 1, 1) := by decide +kernel
theorem dX5_beside_31 : decode cX5_beside 31 = .ok (.iload_n 2, 1) := by decide +kernel
theorem dX5_beside_32 : decode cX5_beside 32 = .ok (.invokevirtual 180, 3) := by decide +kernel
theorem dX5_beside_35 : decode cX5_beside 35 = .ok (.ireturn, 1) := by decide +kernel
theorem dX5_unlike_0 : decode cX5_unlike 0 = .ok (.aload_n 0, 1) := by decide +kernel
theorem dX5_unlike_1 : decode cX5_unlike 1 = .ok (.iload_n 1, 1) := by decide +kernel
theorem dX5_unlike_2 : decode cX5_unlike 2 = .ok (.invokevirtual 149, 3) := by decide +kernel
theorem dX5_unlike_5 : decode cX5_unlike 5 = .ok (.ifCond .eq 11, 3) := by decide +kernel
theorem dX5_unlike_8 : decode cX5_unlike 8 = .ok (.aload_n 0, 1) := by decide +kernel
theorem dX5_unlike_9 : decode cX5_unlike 9 = .ok (.iload_n 2, 1) := by decide +kernel
theorem dX5_unlike_10 : decode cX5_unlike 10 = .ok (.invokevirtual 149, 3) := by decide +kernel
theorem dX5_unlike_13 : decode cX5_unlike 13 = .ok (.ifCond .ne 8, 3) := by decide +kernel
theorem dX5_unlike_16 : decode cX5_unlike 16 = .ok (.aload_n 0, 1) := by decide +kernel
theorem dX5_unlike_17 : decode cX5_unlike 17 = .ok (.invokevirtual 62, 3) := by decide +kernel
theorem dX5_unlike_20 : decode cX5_unlike 20 = .ok (.ireturn, 1) := by decide +kernel
theorem dX5_unlike_21 : decode cX5_unlike 21 = .ok (.aload_n 0, 1) := by decide +kernel
theorem dX5_unlike_22 : decode cX5_unlike 22 = .ok (.getfield 26, 3) := by decide +kernel
theorem dX5_unlike_25 : decode cX5_unlike 25 = .ok (.getfield 170, 3) := by decide +kernel
theorem dX5_unlike_28 : decode cX5_unlike 28 = .ok (.iload_n 1, 1) := by decide +kernel
theorem dX5_unlike_29 : decode cX5_unlike 29 = .ok (.iaload, 1) := by decide +kernel
theorem dX5_unlike_30 : decode cX5_unlike 30 = .ok (.istore_n 3, 1) := by decide +kernel
theorem dX5_unlike_31 : decode cX5_unlike 31 = .ok (.aload_n 0, 1) := by decide +kernel
theorem dX5_unlike_32 : decode cX5_unlike 32 = .ok (.getfield 26, 3) := by decide +kernel
theorem dX5_unlike_35 : decode cX5_unlike 35 = .ok (.getfield 170, 3) := by decide +kernel
theorem dX5_unlike_38 : decode cX5_unlike 38 = .ok (.iload_n 2, 1) := by decide +kernel
theorem dX5_unlike_39 : decode cX5_unlike 39 = .ok (.iaload, 1) := by decide +kernel
theorem dX5_unlike_40 : decode cX5_unlike 40 = .ok (.istore 4, 2) := by decide +kernel
theorem dX5_unlike_42 : decode cX5_unlike 42 = .ok (.iconst 0, 1) := by decide +kernel
theorem dX5_unlike_43 : decode cX5_unlike 43 = .ok (.istore 5, 2) := by decide +kernel
theorem dX5_unlike_45 : decode cX5_unlike 45 = .ok (.iconst 0, 1) := by decide +kernel
theorem dX5_unlike_46 : decode cX5_unlike 46 = .ok (.istore 6, 2) := by decide +kernel
theorem dX5_unlike_48 : decode cX5_unlike 48 = .ok (.iload 6, 2) := by decide +kernel
theorem dX5_unlike_50 : decode cX5_unlike 50 = .ok (.iconst 4, 1) := by decide +kernel
theorem dX5_unlike_51 : decode cX5_unlike 51 = .ok (.if_icmp .ge 48, 3) := by decide +kernel
theorem dX5_unlike_54 : decode cX5_unlike 54 = .ok (.aload_n 0, 1) := by decide +kernel
theorem dX5_unlike_55 : decode cX5_unlike 55 = .ok (.getfield 10, 3) := by decide +kernel
theorem dX5_unlike_58 : decode cX5_unlike 58 = .ok (.iload 6, 2) := by decide +kernel
theorem dX5_unlike_60 : decode cX5_unlike 60 = .ok (.invokevirtual 183, 3) := by decide +kernel
theorem dX5_unlike_63 : decode cX5_unlike 63 = .ok (.ifCond .eq 30, 3) := by decide +kernel
theorem dX5_unlike_66 : decode cX5_unlike 66 = .ok (.aload_n 0, 1) := by decide +kernel
theorem dX5_unlike_67 : decode cX5_unlike 67 = .ok (.getfield 10, 3) := by decide +kernel
theorem dX5_unlike_70 : decode cX5_unlike 70 = .ok (.iload 6, 2) := by decide +kernel
theorem dX5_unlike_72 : decode cX5_unlike 72 = .ok (.iload_n 3, 1) := by decide +kernel
theorem dX5_unlike_73 : decode cX5_unlike 73 = .ok (.invokevirtual 123, 3) := by decide +kernel
theorem dX5_unlike_76 : decode cX5_unlike 76 = .ok (.aload_n 0, 1) := by decide +kernel
theorem dX5_unlike_77 : decode cX5_unlike 77 = .ok (.getfield 10, 3) := by decide +kernel
theorem dX5_unlike_80 : decode cX5_unlike 80 = .ok (.iload 6, 2) := by decide +kernel
theorem dX5_unlike_82 : decode cX5_unlike 82 = .ok (.iload 4, 2) := by decide +kernel
theorem dX5_unlike_84 : decode cX5_unlike 84 = .ok (.invokevirtual 123, 3) := by decide +kernel
theorem dX5_unlike_87 : decode cX5_unlike 87 = .ok (.if_icmp .eq 6, 3) := by decide +kernel
theorem dX5_unlike_90 : decode cX5_unlike 90 = .ok (.iinc 5 1, 3) := by decide +kernel
theorem dX5_unlike_93 : decode cX5_unlike 93 = .ok (.iinc 6 1, 3) := by decide +kernel
theorem dX5_unlike_96 : decode cX5_unlike 96 = .ok (.goto (-48), 3) := by decide +kernel
theorem dX5_unlike_99 : decode cX5_unlike 99 = .ok (.iload 5, 2) := by decide +kernel
theorem dX5_unlike_101 : decode cX5_unlike 101 = .ok (.ireturn, 1) := by decide +kernel
theorem dX5_odd_0 : decode cX5_odd 0 = .ok (.iload_n 1, 1) := by decide +kernel
theorem dX5_odd_1 : decode cX5_odd 1 = .ok (.iconst 0, 1) := by decide +kernel
theorem dX5_odd_2 : decode cX5_odd 2 = .ok (.iconst 1, 1) := by decide +kernel
theorem dX5_odd_3 : decode cX5_odd 3 = .ok (.invokestatic 58, 3) := by decide +kernel
theorem dX5_odd_6 : decode cX5_odd 6 = .ok (.ifCond .ne 8, 3) := by decide +kernel
theorem dX5_odd_9 : decode cX5_odd 9 = .ok (.aload_n 0, 1) := by decide +kernel
theorem dX5_odd_10 : decode cX5_odd 10 = .ok (.invokevirtual 62, 3) := by decide +kernel
theorem dX5_odd_13 : decode cX5_odd 13 = .ok (.ireturn, 1) := by decide +kernel
theorem dX5_odd_14 : decode cX5_odd 14 = .ok (.aload_n 0, 1) := by decide +kernel
theorem dX5_odd_15 : decode cX5_odd 15 = .ok (.invokevirtual 117, 3) := by decide +kernel
theorem dX5_odd_18 : decode cX5_odd 18 = .ok (.iload_n 1, 1) := by decide +kernel
theorem dX5_odd_19 : decode cX5_odd 19 = .ok (.ifCond .ne 17, 3) := by decide +kernel
theorem dX5_odd_22 : decode cX5_odd 22 = .ok (.aload_n 0, 1) := by decide +kernel
theorem dX5_odd_23 : decode cX5_odd 23 = .ok (.getfield 26, 3) := by decide +kernel
theorem dX5_odd_26 : decode cX5_odd 26 = .ok (.aload_n 0, 1) := by decide +kernel
theorem dX5_odd_27 : decode cX5_odd 27 = .ok (.getfield 10, 3) := by decide +kernel
theorem dX5_odd_30 : decode cX5_odd 30 = .ok (.invokevirtual 186, 3) := by decide +kernel
theorem dX5_odd_33 : decode cX5_odd 33 = .ok (.goto 10, 3) := by decide +kernel
theorem dX5_odd_36 : decode cX5_odd 36 = .ok (.aload_n 0, 1) := by decide +kernel
theorem dX5_odd_37 : decode cX5_odd 37 = .ok (.getfield 26, 3) := by decide +kernel
theorem dX5_odd_40 : decode cX5_odd 40 = .ok (.invokevirtual 189, 3) := by decide +kernel
theorem dX5_odd_43 : decode cX5_odd 43 = .ok (.ireturn, 1) := by decide +kernel
theorem dX5_paper_0 : decode cX5_paper 0 = .ok (.iload_n 1, 1) := by decide +kernel
theorem dX5_paper_1 : decode cX5_paper 1 = .ok (.tableswitch 103 0 2 #[27, 52, 78], 27) := by decide +kernel
theorem dX5_paper_28 : decode cX5_paper 28 = .ok (.iload_n 2, 1) := by decide +kernel
theorem dX5_paper_29 : decode cX5_paper 29 = .ok (.iconst 1, 1) := by decide +kernel
theorem dX5_paper_30 : decode cX5_paper 30 = .ok (.iconst 3, 1) := by decide +kernel
theorem dX5_paper_31 : decode cX5_paper 31 = .ok (.invokestatic 58, 3) := by decide +kernel
theorem dX5_paper_34 : decode cX5_paper 34 = .ok (.ifCond .eq 14, 3) := by decide +kernel
theorem dX5_paper_37 : decode cX5_paper 37 = .ok (.aload_n 0, 1) := by decide +kernel
theorem dX5_paper_38 : decode cX5_paper 38 = .ok (.getfield 33, 3) := by decide +kernel
theorem dX5_paper_41 : decode cX5_paper 41 = .ok (.iload_n 2, 1) := by decide +kernel
theorem dX5_paper_42 : decode cX5_paper 42 = .ok (.invokevirtual 192, 3) := by decide +kernel
theorem dX5_paper_45 : decode cX5_paper 45 = .ok (.goto 7, 3) := by decide +kernel
theorem dX5_paper_48 : decode cX5_paper 48 = .ok (.aload_n 0, 1) := by decide +kernel
theorem dX5_paper_49 : decode cX5_paper 49 = .ok (.invokevirtual 62, 3) := by decide +kernel
theorem dX5_paper_52 : decode cX5_paper 52 = .ok (.ireturn, 1) := by decide +kernel
theorem dX5_paper_53 : decode cX5_paper 53 = .ok (.iload_n 2, 1) := by decide +kernel
theorem dX5_paper_54 : decode cX5_paper 54 = .ok (.iconst 4, 1) := by decide +kernel
theorem dX5_paper_55 : decode cX5_paper 55 = .ok (.bipush 30, 2) := by decide +kernel
theorem dX5_paper_57 : decode cX5_paper 57 = .ok (.invokestatic 58, 3) := by decide +kernel
theorem dX5_paper_60 : decode cX5_paper 60 = .ok (.ifCond .eq 14, 3) := by decide +kernel
theorem dX5_paper_63 : decode cX5_paper 63 = .ok (.aload_n 0, 1) := by decide +kernel
theorem dX5_paper_64 : decode cX5_paper 64 = .ok (.getfield 33, 3) := by decide +kernel
theorem dX5_paper_67 : decode cX5_paper 67 = .ok (.iload_n 2, 1) := by decide +kernel
theorem dX5_paper_68 : decode cX5_paper 68 = .ok (.invokevirtual 195, 3) := by decide +kernel
theorem dX5_paper_71 : decode cX5_paper 71 = .ok (.goto 7, 3) := by decide +kernel
theorem dX5_paper_74 : decode cX5_paper 74 = .ok (.aload_n 0, 1) := by decide +kernel
theorem dX5_paper_75 : decode cX5_paper 75 = .ok (.invokevirtual 62, 3) := by decide +kernel
theorem dX5_paper_78 : decode cX5_paper 78 = .ok (.ireturn, 1) := by decide +kernel
theorem dX5_paper_79 : decode cX5_paper 79 = .ok (.iload_n 2, 1) := by decide +kernel
theorem dX5_paper_80 : decode cX5_paper 80 = .ok (.iconst 0, 1) := by decide +kernel
theorem dX5_paper_81 : decode cX5_paper 81 = .ok (.iconst 3, 1) := by decide +kernel
theorem dX5_paper_82 : decode cX5_paper 82 = .ok (.invokestatic 58, 3) := by decide +kernel
theorem dX5_paper_85 : decode cX5_paper 85 = .ok (.ifCond .eq 14, 3) := by decide +kernel
theorem dX5_paper_88 : decode cX5_paper 88 = .ok (.aload_n 0, 1) := by decide +kernel
theorem dX5_paper_89 : decode cX5_paper 89 = .ok (.getfield 33, 3) := by decide +kernel
theorem dX5_paper_92 : decode cX5_paper 92 = .ok (.iload_n 2, 1) := by decide +kernel
theorem dX5_paper_93 : decode cX5_paper 93 = .ok (.invokevirtual 198, 3) := by decide +kernel
theorem dX5_paper_96 : decode cX5_paper 96 = .ok (.goto 7, 3) := by decide +kernel
theorem dX5_paper_99 : decode cX5_paper 99 = .ok (.aload_n 0, 1) := by decide +kernel
theorem dX5_paper_100 : decode cX5_paper 100 = .ok (.invokevirtual 62, 3) := by decide +kernel
theorem dX5_paper_103 : decode cX5_paper 103 = .ok (.ireturn, 1) := by decide +kernel
theorem dX5_paper_104 : decode cX5_paper 104 = .ok (.aload_n 0, 1) := by decide +kernel
theorem dX5_paper_105 : decode cX5_paper 105 = .ok (.invokevirtual 62, 3) := by decide +kernel
theorem dX5_paper_108 : decode cX5_paper 108 = .ok (.ireturn, 1) := by decide +kernel
theorem dX5_faces_0 : decode cX5_faces 0 = .ok (.aload_n 0, 1) := by decide +kernel
theorem dX5_faces_1 : decode cX5_faces 1 = .ok (.iload_n 1, 1) := by decide +kernel
theorem dX5_faces_2 : decode cX5_faces 2 = .ok (.invokevirtual 149, 3) := by decide +kernel
theorem dX5_faces_5 : decode cX5_faces 5 = .ok (.ifCond .ne 8, 3) := by decide +kernel
theorem dX5_faces_8 : decode cX5_faces 8 = .ok (.aload_n 0, 1) := by decide +kernel
theorem dX5_faces_9 : decode cX5_faces 9 = .ok (.invokevirtual 62, 3) := by decide +kernel
theorem dX5_faces_12 : decode cX5_faces 12 = .ok (.ireturn, 1) := by decide +kernel
theorem dX5_faces_13 : decode cX5_faces 13 = .ok (.aload_n 0, 1) := by decide +kernel
theorem dX5_faces_14 : decode cX5_faces 14 = .ok (.iload_n 1, 1) := by decide +kernel
theorem dX5_faces_15 : decode cX5_faces 15 = .ok (.aload_n 0, 1) := by decide +kernel
theorem dX5_faces_16 : decode cX5_faces 16 = .ok (.getfield 33, 3) := by decide +kernel
theorem dX5_faces_19 : decode cX5_faces 19 = .ok (.getfield 201, 3) := by decide +kernel
theorem dX5_faces_22 : decode cX5_faces 22 = .ok (.invokevirtual 204, 3) := by decide +kernel
theorem dX5_faces_25 : decode cX5_faces 25 = .ok (.ireturn, 1) := by decide +kernel
theorem dX5_contest_0 : decode cX5_contest 0 = .ok (.aload_n 0, 1) := by decide +kernel
theorem dX5_contest_1 : decode cX5_contest 1 = .ok (.iload_n 1, 1) := by decide +kernel
theorem dX5_contest_2 : decode cX5_contest 2 = .ok (.invokevirtual 149, 3) := by decide +kernel
theorem dX5_contest_5 : decode cX5_contest 5 = .ok (.ifCond .eq 16, 3) := by decide +kernel
theorem dX5_contest_8 : decode cX5_contest 8 = .ok (.iload_n 2, 1) := by decide +kernel
theorem dX5_contest_9 : decode cX5_contest 9 = .ok (.ifCond .lt 12, 3) := by decide +kernel
theorem dX5_contest_12 : decode cX5_contest 12 = .ok (.iload_n 3, 1) := by decide +kernel
theorem dX5_contest_13 : decode cX5_contest 13 = .ok (.iconst 0, 1) := by decide +kernel
theorem dX5_contest_14 : decode cX5_contest 14 = .ok (.iconst 3, 1) := by decide +kernel
theorem dX5_contest_15 : decode cX5_contest 15 = .ok (.invokestatic 58, 3) := by decide +kernel
theorem dX5_contest_18 : decode cX5_contest 18 = .ok (.ifCond .ne 8, 3) := by decide +kernel
theorem dX5_contest_21 : decode cX5_contest 21 = .ok (.aload_n 0, 1) := by decide +kernel
theorem dX5_contest_22 : decode cX5_contest 22 = .ok (.invokevirtual 62, 3) := by decide +kernel
theorem dX5_contest_25 : decode cX5_contest 25 = .ok (.ireturn, 1) := by decide +kernel
theorem dX5_contest_26 : decode cX5_contest 26 = .ok (.aload_n 0, 1) := by decide +kernel
theorem dX5_contest_27 : decode cX5_contest 27 = .ok (.getfield 26, 3) := by decide +kernel
theorem dX5_contest_30 : decode cX5_contest 30 = .ok (.getfield 170, 3) := by decide +kernel
theorem dX5_contest_33 : decode cX5_contest 33 = .ok (.iload_n 1, 1) := by decide +kernel
theorem dX5_contest_34 : decode cX5_contest 34 = .ok (.iaload, 1) := by decide +kernel
theorem dX5_contest_35 : decode cX5_contest 35 = .ok (.istore 4, 2) := by decide +kernel
theorem dX5_contest_37 : decode cX5_contest 37 = .ok (.aload_n 0, 1) := by decide +kernel
theorem dX5_contest_38 : decode cX5_contest 38 = .ok (.getfield 33, 3) := by decide +kernel
theorem dX5_contest_41 : decode cX5_contest 41 = .ok (.aload_n 0, 1) := by decide +kernel
theorem dX5_contest_42 : decode cX5_contest 42 = .ok (.getfield 10, 3) := by decide +kernel
theorem dX5_contest_45 : decode cX5_contest 45 = .ok (.iload 4, 2) := by decide +kernel
theorem dX5_contest_47 : decode cX5_contest 47 = .ok (.aload_n 0, 1) := by decide +kernel
theorem dX5_contest_48 : decode cX5_contest 48 = .ok (.getfield 33, 3) := by decide +kernel
theorem dX5_contest_51 : decode cX5_contest 51 = .ok (.getfield 201, 3) := by decide +kernel
theorem dX5_contest_54 : decode cX5_contest 54 = .ok (.invokevirtual 207, 3) := by decide +kernel
theorem dX5_contest_57 : decode cX5_contest 57 = .ok (.iload_n 2, 1) := by decide +kernel
theorem dX5_contest_58 : decode cX5_contest 58 = .ok (.aload_n 0, 1) := by decide +kernel
theorem dX5_contest_59 : decode cX5_contest 59 = .ok (.getfield 33, 3) := by decide +kernel
theorem dX5_contest_62 : decode cX5_contest 62 = .ok (.getfield 211, 3) := by decide +kernel
theorem dX5_contest_65 : decode cX5_contest 65 = .ok (.if_icmp .lt 5, 3) := by decide +kernel
theorem dX5_contest_68 : decode cX5_contest 68 = .ok (.iconst (-1), 1) := by decide +kernel
theorem dX5_contest_69 : decode cX5_contest 69 = .ok (.ireturn, 1) := by decide +kernel
theorem dX5_contest_70 : decode cX5_contest 70 = .ok (.iload_n 3, 1) := by decide +kernel
theorem dX5_contest_71 : decode cX5_contest 71 = .ok (.tableswitch 73 0 2 #[25, 35, 54], 25) := by decide +kernel
theorem dX5_contest_96 : decode cX5_contest 96 = .ok (.aload_n 0, 1) := by decide +kernel
theorem dX5_contest_97 : decode cX5_contest 97 = .ok (.getfield 33, 3) := by decide +kernel
theorem dX5_contest_100 : decode cX5_contest 100 = .ok (.getfield 214, 3) := by decide +kernel
theorem dX5_contest_103 : decode cX5_contest 103 = .ok (.iload_n 2, 1) := by decide +kernel
theorem dX5_contest_104 : decode cX5_contest 104 = .ok (.iaload, 1) := by decide +kernel
theorem dX5_contest_105 : decode cX5_contest 105 = .ok (.ireturn, 1) := by decide +kernel
theorem dX5_contest_106 : decode cX5_contest 106 = .ok (.aload_n 0, 1) := by decide +kernel
theorem dX5_contest_107 : decode cX5_contest 107 = .ok (.getfield 10, 3) := by decide +kernel
theorem dX5_contest_110 : decode cX5_contest 110 = .ok (.aload_n 0, 1) := by decide +kernel
theorem dX5_contest_111 : decode cX5_contest 111 = .ok (.getfield 33, 3) := by decide +kernel
theorem dX5_contest_114 : decode cX5_contest 114 = .ok (.getfield 214, 3) := by decide +kernel
theorem dX5_contest_117 : decode cX5_contest 117 = .ok (.iload_n 2, 1) := by decide +kernel
theorem dX5_contest_118 : decode cX5_contest 118 = .ok (.iaload, 1) := by decide +kernel
theorem dX5_contest_119 : decode cX5_contest 119 = .ok (.iload 4, 2) := by decide +kernel
theorem dX5_contest_121 : decode cX5_contest 121 = .ok (.invokevirtual 123, 3) := by decide +kernel
theorem dX5_contest_124 : decode cX5_contest 124 = .ok (.ireturn, 1) := by decide +kernel
theorem dX5_contest_125 : decode cX5_contest 125 = .ok (.aload_n 0, 1) := by decide +kernel
theorem dX5_contest_126 : decode cX5_contest 126 = .ok (.getfield 10, 3) := by decide +kernel
theorem dX5_contest_129 : decode cX5_contest 129 = .ok (.aload_n 0, 1) := by decide +kernel
theorem dX5_contest_130 : decode cX5_contest 130 = .ok (.getfield 33, 3) := by decide +kernel
theorem dX5_contest_133 : decode cX5_contest 133 = .ok (.getfield 214, 3) := by decide +kernel
theorem dX5_contest_136 : decode cX5_contest 136 = .ok (.iload_n 2, 1) := by decide +kernel
theorem dX5_contest_137 : decode cX5_contest 137 = .ok (.iaload, 1) := by decide +kernel
theorem dX5_contest_138 : decode cX5_contest 138 = .ok (.iload 4, 2) := by decide +kernel
theorem dX5_contest_140 : decode cX5_contest 140 = .ok (.invokevirtual 217, 3) := by decide +kernel
theorem dX5_contest_143 : decode cX5_contest 143 = .ok (.ireturn, 1) := by decide +kernel
theorem dX5_contest_144 : decode cX5_contest 144 = .ok (.aload_n 0, 1) := by decide +kernel
theorem dX5_contest_145 : decode cX5_contest 145 = .ok (.getfield 33, 3) := by decide +kernel
theorem dX5_contest_148 : decode cX5_contest 148 = .ok (.getfield 220, 3) := by decide +kernel
theorem dX5_contest_151 : decode cX5_contest 151 = .ok (.ifCond .eq 7, 3) := by decide +kernel
theorem dX5_contest_154 : decode cX5_contest 154 = .ok (.iconst (-1), 1) := by decide +kernel
theorem dX5_contest_155 : decode cX5_contest 155 = .ok (.goto 12, 3) := by decide +kernel
theorem dX5_contest_158 : decode cX5_contest 158 = .ok (.aload_n 0, 1) := by decide +kernel
theorem dX5_contest_159 : decode cX5_contest 159 = .ok (.getfield 33, 3) := by decide +kernel
theorem dX5_contest_162 : decode cX5_contest 162 = .ok (.getfield 224, 3) := by decide +kernel
theorem dX5_contest_165 : decode cX5_contest 165 = .ok (.iload_n 2, 1) := by decide +kernel
theorem dX5_contest_166 : decode cX5_contest 166 = .ok (.iaload, 1) := by decide +kernel
theorem dX5_contest_167 : decode cX5_contest 167 = .ok (.ireturn, 1) := by decide +kernel
theorem dX5_room_0 : decode cX5_room 0 = .ok (.aload_n 0, 1) := by decide +kernel
theorem dX5_room_1 : decode cX5_room 1 = .ok (.iload_n 1, 1) := by decide +kernel
theorem dX5_room_2 : decode cX5_room 2 = .ok (.invokevirtual 149, 3) := by decide +kernel
theorem dX5_room_5 : decode cX5_room 5 = .ok (.ifCond .eq 12, 3) := by decide +kernel
theorem dX5_room_8 : decode cX5_room 8 = .ok (.iload_n 2, 1) := by decide +kernel
theorem dX5_room_9 : decode cX5_room 9 = .ok (.iconst 0, 1) := by decide +kernel
theorem dX5_room_10 : decode cX5_room 10 = .ok (.iconst 1, 1) := by decide +kernel
theorem dX5_room_11 : decode cX5_room 11 = .ok (.invokestatic 58, 3) := by decide +kernel
theorem dX5_room_14 : decode cX5_room 14 = .ok (.ifCond .ne 8, 3) := by decide +kernel
theorem dX5_room_17 : decode cX5_room 17 = .ok (.aload_n 0, 1) := by decide +kernel
theorem dX5_room_18 : decode cX5_room 18 = .ok (.invokevirtual 62, 3) := by decide +kernel
theorem dX5_room_21 : decode cX5_room 21 = .ok (.ireturn, 1) := by decide +kernel
theorem dX5_room_22 : decode cX5_room 22 = .ok (.iload_n 2, 1) := by decide +kernel
theorem dX5_room_23 : decode cX5_room 23 = .ok (.iconst 1, 1) := by decide +kernel
theorem dX5_room_24 : decode cX5_room 24 = .ok (.if_icmp .ne 15, 3) := by decide +kernel
theorem dX5_room_27 : decode cX5_room 27 = .ok (.aload_n 0, 1) := by decide +kernel
theorem dX5_room_28 : decode cX5_room 28 = .ok (.aload_n 0, 1) := by decide +kernel
theorem dX5_room_29 : decode cX5_room 29 = .ok (.getfield 33, 3) := by decide +kernel
theorem dX5_room_32 : decode cX5_room 32 = .ok (.getfield 201, 3) := by decide +kernel
theorem dX5_room_35 : decode cX5_room 35 = .ok (.invokevirtual 227, 3) := by decide +kernel
theorem dX5_room_38 : decode cX5_room 38 = .ok (.ireturn, 1) := by decide +kernel
theorem dX5_room_39 : decode cX5_room 39 = .ok (.aload_n 0, 1) := by decide +kernel
theorem dX5_room_40 : decode cX5_room 40 = .ok (.getfield 33, 3) := by decide +kernel
theorem dX5_room_43 : decode cX5_room 43 = .ok (.aload_n 0, 1) := by decide +kernel
theorem dX5_room_44 : decode cX5_room 44 = .ok (.getfield 10, 3) := by decide +kernel
theorem dX5_room_47 : decode cX5_room 47 = .ok (.aload_n 0, 1) := by decide +kernel
theorem dX5_room_48 : decode cX5_room 48 = .ok (.getfield 26, 3) := by decide +kernel
theorem dX5_room_51 : decode cX5_room 51 = .ok (.getfield 170, 3) := by decide +kernel
theorem dX5_room_54 : decode cX5_room 54 = .ok (.iload_n 1, 1) := by decide +kernel
theorem dX5_room_55 : decode cX5_room 55 = .ok (.iaload, 1) := by decide +kernel
theorem dX5_room_56 : decode cX5_room 56 = .ok (.aload_n 0, 1) := by decide +kernel
theorem dX5_room_57 : decode cX5_room 57 = .ok (.getfield 33, 3) := by decide +kernel
theorem dX5_room_60 : decode cX5_room 60 = .ok (.getfield 201, 3) := by decide +kernel
theorem dX5_room_63 : decode cX5_room 63 = .ok (.invokevirtual 207, 3) := by decide +kernel
theorem dX5_room_66 : decode cX5_room 66 = .ok (.aload_n 0, 1) := by decide +kernel
theorem dX5_room_67 : decode cX5_room 67 = .ok (.getfield 33, 3) := by decide +kernel
theorem dX5_room_70 : decode cX5_room 70 = .ok (.getfield 220, 3) := by decide +kernel
theorem dX5_room_73 : decode cX5_room 73 = .ok (.ifCond .eq 7, 3) := by decide +kernel
theorem dX5_room_76 : decode cX5_room 76 = .ok (.iconst (-1), 1) := by decide +kernel
theorem dX5_room_77 : decode cX5_room 77 = .ok (.goto 10, 3) := by decide +kernel
theorem dX5_room_80 : decode cX5_room 80 = .ok (.aload_n 0, 1) := by decide +kernel
theorem dX5_room_81 : decode cX5_room 81 = .ok (.getfield 33, 3) := by decide +kernel
theorem dX5_room_84 : decode cX5_room 84 = .ok (.invokevirtual 230, 3) := by decide +kernel
theorem dX5_room_87 : decode cX5_room 87 = .ok (.ireturn, 1) := by decide +kernel
theorem dX5_rule_0 : decode cX5_rule 0 = .ok (.iload_n 1, 1) := by decide +kernel
theorem dX5_rule_1 : decode cX5_rule 1 = .ok (.iconst 0, 1) := by decide +kernel
theorem dX5_rule_2 : decode cX5_rule 2 = .ok (.iconst 1, 1) := by decide +kernel
theorem dX5_rule_3 : decode cX5_rule 3 = .ok (.invokestatic 58, 3) := by decide +kernel
theorem dX5_rule_6 : decode cX5_rule 6 = .ok (.ifCond .ne 8, 3) := by decide +kernel
theorem dX5_rule_9 : decode cX5_rule 9 = .ok (.aload_n 0, 1) := by decide +kernel
theorem dX5_rule_10 : decode cX5_rule 10 = .ok (.invokevirtual 62, 3) := by decide +kernel
theorem dX5_rule_13 : decode cX5_rule 13 = .ok (.ireturn, 1) := by decide +kernel
theorem dX5_rule_14 : decode cX5_rule 14 = .ok (.aload_n 0, 1) := by decide +kernel
theorem dX5_rule_15 : decode cX5_rule 15 = .ok (.invokevirtual 117, 3) := by decide +kernel
theorem dX5_rule_18 : decode cX5_rule 18 = .ok (.aload_n 0, 1) := by decide +kernel
theorem dX5_rule_19 : decode cX5_rule 19 = .ok (.invokevirtual 233, 3) := by decide +kernel
theorem dX5_rule_22 : decode cX5_rule 22 = .ok (.ifCond .eq 8, 3) := by decide +kernel
theorem dX5_rule_25 : decode cX5_rule 25 = .ok (.aload_n 0, 1) := by decide +kernel
theorem dX5_rule_26 : decode cX5_rule 26 = .ok (.invokevirtual 106, 3) := by decide +kernel
theorem dX5_rule_29 : decode cX5_rule 29 = .ok (.ireturn, 1) := by decide +kernel
theorem dX5_rule_30 : decode cX5_rule 30 = .ok (.iconst 0, 1) := by decide +kernel
theorem dX5_rule_31 : decode cX5_rule 31 = .ok (.istore_n 2, 1) := by decide +kernel
theorem dX5_rule_32 : decode cX5_rule 32 = .ok (.aload_n 0, 1) := by decide +kernel
theorem dX5_rule_33 : decode cX5_rule 33 = .ok (.iconst 0, 1) := by decide +kernel
theorem dX5_rule_34 : decode cX5_rule 34 = .ok (.invokevirtual 227, 3) := by decide +kernel
theorem dX5_rule_37 : decode cX5_rule 37 = .ok (.istore_n 3, 1) := by decide +kernel
theorem dX5_rule_38 : decode cX5_rule 38 = .ok (.iconst 1, 1) := by decide +kernel
theorem dX5_rule_39 : decode cX5_rule 39 = .ok (.istore 4, 2) := by decide +kernel
theorem dX5_rule_41 : decode cX5_rule 41 = .ok (.iload 4, 2) := by decide +kernel
theorem dX5_rule_43 : decode cX5_rule 43 = .ok (.iconst 4, 1) := by decide +kernel
theorem dX5_rule_44 : decode cX5_rule 44 = .ok (.if_icmp .ge 29, 3) := by decide +kernel
theorem dX5_rule_47 : decode cX5_rule 47 = .ok (.aload_n 0, 1) := by decide +kernel
theorem dX5_rule_48 : decode cX5_rule 48 = .ok (.iload 4, 2) := by decide +kernel
theorem dX5_rule_50 : decode cX5_rule 50 = .ok (.invokevirtual 227, 3) := by decide +kernel
theorem dX5_rule_53 : decode cX5_rule 53 = .ok (.istore 5, 2) := by decide +kernel
theorem dX5_rule_55 : decode cX5_rule 55 = .ok (.iload 5, 2) := by decide +kernel
theorem dX5_rule_57 : decode cX5_rule 57 = .ok (.iload_n 3, 1) := by decide +kernel
theorem dX5_rule_58 : decode cX5_rule 58 = .ok (.if_icmp .ge 9, 3) := by decide +kernel
theorem dX5_rule_61 : decode cX5_rule 61 = .ok (.iload 4, 2) := by decide +kernel
theorem dX5_rule_63 : decode cX5_rule 63 = .ok (.istore_n 2, 1) := by decide +kernel
theorem dX5_rule_64 : decode cX5_rule 64 = .ok (.iload 5, 2) := by decide +kernel
theorem dX5_rule_66 : decode cX5_rule 66 = .ok (.istore_n 3, 1) := by decide +kernel
theorem dX5_rule_67 : decode cX5_rule 67 = .ok (.iinc 4 1, 3) := by decide +kernel
theorem dX5_rule_70 : decode cX5_rule 70 = .ok (.goto (-29), 3) := by decide +kernel
theorem dX5_rule_73 : decode cX5_rule 73 = .ok (.iload_n 1, 1) := by decide +kernel
theorem dX5_rule_74 : decode cX5_rule 74 = .ok (.ifCond .ne 7, 3) := by decide +kernel
theorem dX5_rule_77 : decode cX5_rule 77 = .ok (.iload_n 2, 1) := by decide +kernel
theorem dX5_rule_78 : decode cX5_rule 78 = .ok (.goto 4, 3) := by decide +kernel
theorem dX5_rule_81 : decode cX5_rule 81 = .ok (.iload_n 3, 1) := by decide +kernel
theorem dX5_rule_82 : decode cX5_rule 82 = .ok (.ireturn, 1) := by decide +kernel
theorem dX5_leads_0 : decode cX5_leads 0 = .ok (.iload_n 1, 1) := by decide +kernel
theorem dX5_leads_1 : decode cX5_leads 1 = .ok (.invokestatic 89, 3) := by decide +kernel
theorem dX5_leads_4 : decode cX5_leads 4 = .ok (.ifCond .eq 10, 3) := by decide +kernel
theorem dX5_leads_7 : decode cX5_leads 7 = .ok (.iload_n 2, 1) := by decide +kernel
theorem dX5_leads_8 : decode cX5_leads 8 = .ok (.invokestatic 54, 3) := by decide +kernel
theorem dX5_leads_11 : decode cX5_leads 11 = .ok (.ifCond .ne 8, 3) := by decide +kernel
theorem dX5_leads_14 : decode cX5_leads 14 = .ok (.aload_n 0, 1) := by decide +kernel
theorem dX5_leads_15 : decode cX5_leads 15 = .ok (.invokevirtual 62, 3) := by decide +kernel
theorem dX5_leads_18 : decode cX5_leads 18 = .ok (.ireturn, 1) := by decide +kernel
theorem dX5_leads_19 : decode cX5_leads 19 = .ok (.aload_n 0, 1) := by decide +kernel
theorem dX5_leads_20 : decode cX5_leads 20 = .ok (.getfield 10, 3) := by decide +kernel
theorem dX5_leads_23 : decode cX5_leads 23 = .ok (.iload_n 2, 1) := by decide +kernel
theorem dX5_leads_24 : decode cX5_leads 24 = .ok (.invokevirtual 183, 3) := by decide +kernel
theorem dX5_leads_27 : decode cX5_leads 27 = .ok (.ifCond .eq 15, 3) := by decide +kernel
theorem dX5_leads_30 : decode cX5_leads 30 = .ok (.aload_n 0, 1) := by decide +kernel
theorem dX5_leads_31 : decode cX5_leads 31 = .ok (.getfield 10, 3) := by decide +kernel
theorem dX5_leads_34 : decode cX5_leads 34 = .ok (.iload_n 2, 1) := by decide +kernel
theorem dX5_leads_35 : decode cX5_leads 35 = .ok (.iload_n 1, 1) := by decide +kernel
theorem dX5_leads_36 : decode cX5_leads 36 = .ok (.invokevirtual 236, 3) := by decide +kernel
theorem dX5_leads_39 : decode cX5_leads 39 = .ok (.goto 4, 3) := by decide +kernel
theorem dX5_leads_42 : decode cX5_leads 42 = .ok (.iconst (-1), 1) := by decide +kernel
theorem dX5_leads_43 : decode cX5_leads 43 = .ok (.ireturn, 1) := by decide +kernel
theorem dX5_lead_0 : decode cX5_lead 0 = .ok (.iload_n 1, 1) := by decide +kernel
theorem dX5_lead_1 : decode cX5_lead 1 = .ok (.invokestatic 54, 3) := by decide +kernel
theorem dX5_lead_4 : decode cX5_lead 4 = .ok (.ifCond .eq 17, 3) := by decide +kernel
theorem dX5_lead_7 : decode cX5_lead 7 = .ok (.iload_n 2, 1) := by decide +kernel
theorem dX5_lead_8 : decode cX5_lead 8 = .ok (.invokestatic 74, 3) := by decide +kernel
theorem dX5_lead_11 : decode cX5_lead 11 = .ok (.ifCond .eq 10, 3) := by decide +kernel
theorem dX5_lead_14 : decode cX5_lead 14 = .ok (.iload_n 3, 1) := by decide +kernel
theorem dX5_lead_15 : decode cX5_lead 15 = .ok (.invokestatic 239, 3) := by decide +kernel
theorem dX5_lead_18 : decode cX5_lead 18 = .ok (.ifCond .ne 8, 3) := by decide +kernel
theorem dX5_lead_21 : decode cX5_lead 21 = .ok (.aload_n 0, 1) := by decide +kernel
theorem dX5_lead_22 : decode cX5_lead 22 = .ok (.invokevirtual 62, 3) := by decide +kernel
theorem dX5_lead_25 : decode cX5_lead 25 = .ok (.ireturn, 1) := by decide +kernel
theorem dX5_lead_26 : decode cX5_lead 26 = .ok (.iload_n 3, 1) := by decide +kernel
theorem dX5_lead_27 : decode cX5_lead 27 = .ok (.aload_n 0, 1) := by decide +kernel
theorem dX5_lead_28 : decode cX5_lead 28 = .ok (.getfield 10, 3) := by decide +kernel
theorem dX5_lead_31 : decode cX5_lead 31 = .ok (.iload_n 1, 1) := by decide +kernel
theorem dX5_lead_32 : decode cX5_lead 32 = .ok (.iload_n 2, 1) := by decide +kernel
theorem dX5_lead_33 : decode cX5_lead 33 = .ok (.invokevirtual 242, 3) := by decide +kernel
theorem dX5_lead_36 : decode cX5_lead 36 = .ok (.if_icmp .ge 17, 3) := by decide +kernel
theorem dX5_lead_39 : decode cX5_lead 39 = .ok (.aload_n 0, 1) := by decide +kernel
theorem dX5_lead_40 : decode cX5_lead 40 = .ok (.getfield 10, 3) := by decide +kernel
theorem dX5_lead_43 : decode cX5_lead 43 = .ok (.iload_n 1, 1) := by decide +kernel
theorem dX5_lead_44 : decode cX5_lead 44 = .ok (.iload_n 2, 1) := by decide +kernel
theorem dX5_lead_45 : decode cX5_lead 45 = .ok (.iload_n 3, 1) := by decide +kernel
theorem dX5_lead_46 : decode cX5_lead 46 = .ok (.iconst 1, 1) := by decide +kernel
theorem dX5_lead_47 : decode cX5_lead 47 = .ok (.invokevirtual 245, 3) := by decide +kernel
theorem dX5_lead_50 : decode cX5_lead 50 = .ok (.goto 4, 3) := by decide +kernel
theorem dX5_lead_53 : decode cX5_lead 53 = .ok (.iconst (-1), 1) := by decide +kernel
theorem dX5_lead_54 : decode cX5_lead 54 = .ok (.ireturn, 1) := by decide +kernel
theorem dX5_fair_0 : decode cX5_fair 0 = .ok (.iload_n 1, 1) := by decide +kernel
theorem dX5_fair_1 : decode cX5_fair 1 = .ok (.invokestatic 54, 3) := by decide +kernel
theorem dX5_fair_4 : decode cX5_fair 4 = .ok (.ifCond .eq 19, 3) := by decide +kernel
theorem dX5_fair_7 : decode cX5_fair 7 = .ok (.iload_n 2, 1) := by decide +kernel
theorem dX5_fair_8 : decode cX5_fair 8 = .ok (.invokestatic 74, 3) := by decide +kernel
theorem dX5_fair_11 : decode cX5_fair 11 = .ok (.ifCond .eq 12, 3) := by decide +kernel
theorem dX5_fair_14 : decode cX5_fair 14 = .ok (.iload_n 3, 1) := by decide +kernel
theorem dX5_fair_15 : decode cX5_fair 15 = .ok (.iconst 0, 1) := by decide +kernel
theorem dX5_fair_16 : decode cX5_fair 16 = .ok (.iconst 1, 1) := by decide +kernel
theorem dX5_fair_17 : decode cX5_fair 17 = .ok (.invokestatic 58, 3) := by decide +kernel
theorem dX5_fair_20 : decode cX5_fair 20 = .ok (.ifCond .ne 8, 3) := by decide +kernel
theorem dX5_fair_23 : decode cX5_fair 23 = .ok (.aload_n 0, 1) := by decide +kernel
theorem dX5_fair_24 : decode cX5_fair 24 = .ok (.invokevirtual 62, 3) := by decide +kernel
theorem dX5_fair_27 : decode cX5_fair 27 = .ok (.ireturn, 1) := by decide +kernel
theorem dX5_fair_28 : decode cX5_fair 28 = .ok (.aload_n 0, 1) := by decide +kernel
theorem dX5_fair_29 : decode cX5_fair 29 = .ok (.getfield 10, 3) := by decide +kernel
theorem dX5_fair_32 : decode cX5_fair 32 = .ok (.iload_n 1, 1) := by decide +kernel
theorem dX5_fair_33 : decode cX5_fair 33 = .ok (.iload_n 2, 1) := by decide +kernel
theorem dX5_fair_34 : decode cX5_fair 34 = .ok (.iconst 0, 1) := by decide +kernel
theorem dX5_fair_35 : decode cX5_fair 35 = .ok (.iload_n 3, 1) := by decide +kernel
theorem dX5_fair_36 : decode cX5_fair 36 = .ok (.iconst 1, 1) := by decide +kernel
theorem dX5_fair_37 : decode cX5_fair 37 = .ok (.if_icmp .ne 7, 3) := by decide +kernel
theorem dX5_fair_40 : decode cX5_fair 40 = .ok (.iconst 1, 1) := by decide +kernel
theorem dX5_fair_41 : decode cX5_fair 41 = .ok (.goto 4, 3) := by decide +kernel
theorem dX5_fair_44 : decode cX5_fair 44 = .ok (.iconst 0, 1) := by decide +kernel
theorem dX5_fair_45 : decode cX5_fair 45 = .ok (.invokevirtual 245, 3) := by decide +kernel
theorem dX5_fair_48 : decode cX5_fair 48 = .ok (.istore 4, 2) := by decide +kernel
theorem dX5_fair_50 : decode cX5_fair 50 = .ok (.iload 4, 2) := by decide +kernel
theorem dX5_fair_52 : decode cX5_fair 52 = .ok (.istore 5, 2) := by decide +kernel
theorem dX5_fair_54 : decode cX5_fair 54 = .ok (.iconst 1, 1) := by decide +kernel
theorem dX5_fair_55 : decode cX5_fair 55 = .ok (.istore 6, 2) := by decide +kernel
theorem dX5_fair_57 : decode cX5_fair 57 = .ok (.iload 6, 2) := by decide +kernel
theorem dX5_fair_59 : decode cX5_fair 59 = .ok (.aload_n 0, 1) := by decide +kernel
theorem dX5_fair_60 : decode cX5_fair 60 = .ok (.getfield 10, 3) := by decide +kernel
theorem dX5_fair_63 : decode cX5_fair 63 = .ok (.iload_n 1, 1) := by decide +kernel
theorem dX5_fair_64 : decode cX5_fair 64 = .ok (.iload_n 2, 1) := by decide +kernel
theorem dX5_fair_65 : decode cX5_fair 65 = .ok (.invokevirtual 242, 3) := by decide +kernel
theorem dX5_fair_68 : decode cX5_fair 68 = .ok (.if_icmp .ge 50, 3) := by decide +kernel
theorem dX5_fair_71 : decode cX5_fair 71 = .ok (.aload_n 0, 1) := by decide +kernel
theorem dX5_fair_72 : decode cX5_fair 72 = .ok (.getfield 10, 3) := by decide +kernel
theorem dX5_fair_75 : decode cX5_fair 75 = .ok (.iload_n 1, 1) := by decide +kernel
theorem dX5_fair_76 : decode cX5_fair 76 = .ok (.iload_n 2, 1) := by decide +kernel
theorem dX5_fair_77 : decode cX5_fair 77 = .ok (.iload 6, 2) := by decide +kernel
theorem dX5_fair_79 : decode cX5_fair 79 = .ok (.iload_n 3, 1) := by decide +kernel
theorem dX5_fair_80 : decode cX5_fair 80 = .ok (.iconst 1, 1) := by decide +kernel
theorem dX5_fair_81 : decode cX5_fair 81 = .ok (.if_icmp .ne 7, 3) := by decide +kernel
theorem dX5_fair_84 : decode cX5_fair 84 = .ok (.iconst 1, 1) := by decide +kernel
theorem dX5_fair_85 : decode cX5_fair 85 = .ok (.goto 4, 3) := by decide +kernel
theorem dX5_fair_88 : decode cX5_fair 88 = .ok (.iconst 0, 1) := by decide +kernel
theorem dX5_fair_89 : decode cX5_fair 89 = .ok (.invokevirtual 245, 3) := by decide +kernel
theorem dX5_fair_92 : decode cX5_fair 92 = .ok (.istore 7, 2) := by decide +kernel
theorem dX5_fair_94 : decode cX5_fair 94 = .ok (.iload 4, 2) := by decide +kernel
theorem dX5_fair_96 : decode cX5_fair 96 = .ok (.iload 7, 2) := by decide +kernel
theorem dX5_fair_98 : decode cX5_fair 98 = .ok (.invokestatic 249, 3) := by decide +kernel
theorem dX5_fair_101 : decode cX5_fair 101 = .ok (.istore 4, 2) := by decide +kernel
theorem dX5_fair_103 : decode cX5_fair 103 = .ok (.iload 5, 2) := by decide +kernel
theorem dX5_fair_105 : decode cX5_fair 105 = .ok (.iload 7, 2) := by decide +kernel
theorem dX5_fair_107 : decode cX5_fair 107 = .ok (.invokestatic 254, 3) := by decide +kernel
theorem dX5_fair_110 : decode cX5_fair 110 = .ok (.istore 5, 2) := by decide +kernel
theorem dX5_fair_112 : decode cX5_fair 112 = .ok (.iinc 6 1, 3) := by decide +kernel
theorem dX5_fair_115 : decode cX5_fair 115 = .ok (.goto (-58), 3) := by decide +kernel
theorem dX5_fair_118 : decode cX5_fair 118 = .ok (.iload 4, 2) := by decide +kernel
theorem dX5_fair_120 : decode cX5_fair 120 = .ok (.iload 5, 2) := by decide +kernel
theorem dX5_fair_122 : decode cX5_fair 122 = .ok (.isub, 1) := by decide +kernel
theorem dX5_fair_123 : decode cX5_fair 123 = .ok (.ireturn, 1) := by decide +kernel
theorem dX5_place_0 : decode cX5_place 0 = .ok (.iload_n 1, 1) := by decide +kernel
theorem dX5_place_1 : decode cX5_place 1 = .ok (.invokestatic 89, 3) := by decide +kernel
theorem dX5_place_4 : decode cX5_place 4 = .ok (.ifCond .eq 17, 3) := by decide +kernel
theorem dX5_place_7 : decode cX5_place 7 = .ok (.iload_n 2, 1) := by decide +kernel
theorem dX5_place_8 : decode cX5_place 8 = .ok (.invokestatic 54, 3) := by decide +kernel
theorem dX5_place_11 : decode cX5_place 11 = .ok (.ifCond .eq 10, 3) := by decide +kernel
theorem dX5_place_14 : decode cX5_place 14 = .ok (.iload_n 3, 1) := by decide +kernel
theorem dX5_place_15 : decode cX5_place 15 = .ok (.invokestatic 239, 3) := by decide +kernel
theorem dX5_place_18 : decode cX5_place 18 = .ok (.ifCond .ne 8, 3) := by decide +kernel
theorem dX5_place_21 : decode cX5_place 21 = .ok (.aload_n 0, 1) := by decide +kernel
theorem dX5_place_22 : decode cX5_place 22 = .ok (.invokevirtual 62, 3) := by decide +kernel
theorem dX5_place_25 : decode cX5_place 25 = .ok (.ireturn, 1) := by decide +kernel
theorem dX5_place_26 : decode cX5_place 26 = .ok (.aload_n 0, 1) := by decide +kernel
theorem dX5_place_27 : decode cX5_place 27 = .ok (.getfield 10, 3) := by decide +kernel
theorem dX5_place_30 : decode cX5_place 30 = .ok (.iload_n 2, 1) := by decide +kernel
theorem dX5_place_31 : decode cX5_place 31 = .ok (.aload_n 0, 1) := by decide +kernel
theorem dX5_place_32 : decode cX5_place 32 = .ok (.getfield 10, 3) := by decide +kernel
theorem dX5_place_35 : decode cX5_place 35 = .ok (.iload_n 2, 1) := by decide +kernel
theorem dX5_place_36 : decode cX5_place 36 = .ok (.iload_n 1, 1) := by decide +kernel
theorem dX5_place_37 : decode cX5_place 37 = .ok (.invokevirtual 123, 3) := by decide +kernel
theorem dX5_place_40 : decode cX5_place 40 = .ok (.invokevirtual 242, 3) := by decide +kernel
theorem dX5_place_43 : decode cX5_place 43 = .ok (.istore 4, 2) := by decide +kernel
theorem dX5_place_45 : decode cX5_place 45 = .ok (.aload_n 0, 1) := by decide +kernel
theorem dX5_place_46 : decode cX5_place 46 = .ok (.getfield 10, 3) := by decide +kernel
theorem dX5_place_49 : decode cX5_place 49 = .ok (.iload_n 2, 1) := by decide +kernel
theorem dX5_place_50 : decode cX5_place 50 = .ok (.invokevirtual 183, 3) := by decide +kernel
theorem dX5_place_53 : decode cX5_place 53 = .ok (.ifCond .eq 9, 3) := by decide +kernel
theorem dX5_place_56 : decode cX5_place 56 = .ok (.iload_n 3, 1) := by decide +kernel
theorem dX5_place_57 : decode cX5_place 57 = .ok (.iload 4, 2) := by decide +kernel
theorem dX5_place_59 : decode cX5_place 59 = .ok (.if_icmp .lt 5, 3) := by decide +kernel
theorem dX5_place_62 : decode cX5_place 62 = .ok (.iconst (-1), 1) := by decide +kernel
theorem dX5_place_63 : decode cX5_place 63 = .ok (.ireturn, 1) := by decide +kernel
theorem dX5_place_64 : decode cX5_place 64 = .ok (.iload_n 3, 1) := by decide +kernel
theorem dX5_place_65 : decode cX5_place 65 = .ok (.aload_n 0, 1) := by decide +kernel
theorem dX5_place_66 : decode cX5_place 66 = .ok (.getfield 10, 3) := by decide +kernel
theorem dX5_place_69 : decode cX5_place 69 = .ok (.iload_n 2, 1) := by decide +kernel
theorem dX5_place_70 : decode cX5_place 70 = .ok (.iload_n 1, 1) := by decide +kernel
theorem dX5_place_71 : decode cX5_place 71 = .ok (.invokevirtual 236, 3) := by decide +kernel
theorem dX5_place_74 : decode cX5_place 74 = .ok (.isub, 1) := by decide +kernel
theorem dX5_place_75 : decode cX5_place 75 = .ok (.istore 5, 2) := by decide +kernel
theorem dX5_place_77 : decode cX5_place 77 = .ok (.iload 5, 2) := by decide +kernel
theorem dX5_place_79 : decode cX5_place 79 = .ok (.ifCond .ge 11, 3) := by decide +kernel
theorem dX5_place_82 : decode cX5_place 82 = .ok (.iload 5, 2) := by decide +kernel
theorem dX5_place_84 : decode cX5_place 84 = .ok (.iload 4, 2) := by decide +kernel
theorem dX5_place_86 : decode cX5_place 86 = .ok (.iadd, 1) := by decide +kernel
theorem dX5_place_87 : decode cX5_place 87 = .ok (.goto 5, 3) := by decide +kernel
theorem dX5_place_90 : decode cX5_place 90 = .ok (.iload 5, 2) := by decide +kernel
theorem dX5_place_92 : decode cX5_place 92 = .ok (.ireturn, 1) := by decide +kernel
theorem dX5_told_0 : decode cX5_told 0 = .ok (.iload_n 1, 1) := by decide +kernel
theorem dX5_told_1 : decode cX5_told 1 = .ok (.iconst 0, 1) := by decide +kernel
theorem dX5_told_2 : decode cX5_told 2 = .ok (.bipush 8, 2) := by decide +kernel
theorem dX5_told_4 : decode cX5_told 4 = .ok (.invokestatic 58, 3) := by decide +kernel
theorem dX5_told_7 : decode cX5_told 7 = .ok (.ifCond .eq 11, 3) := by decide +kernel
theorem dX5_told_10 : decode cX5_told 10 = .ok (.aload_n 0, 1) := by decide +kernel
theorem dX5_told_11 : decode cX5_told 11 = .ok (.iload_n 1, 1) := by decide +kernel
theorem dX5_told_12 : decode cX5_told 12 = .ok (.invokevirtual 257, 3) := by decide +kernel
theorem dX5_told_15 : decode cX5_told 15 = .ok (.goto 7, 3) := by decide +kernel
theorem dX5_told_18 : decode cX5_told 18 = .ok (.aload_n 0, 1) := by decide +kernel
theorem dX5_told_19 : decode cX5_told 19 = .ok (.invokevirtual 62, 3) := by decide +kernel
theorem dX5_told_22 : decode cX5_told 22 = .ok (.ireturn, 1) := by decide +kernel
theorem dX5_digest_0 : decode cX5_digest 0 = .ok (.ldc2_w 260, 3) := by decide +kernel
theorem dX5_digest_3 : decode cX5_digest 3 = .ok (.lstore_n 1, 1) := by decide +kernel
theorem dX5_digest_4 : decode cX5_digest 4 = .ok (.iconst 0, 1) := by decide +kernel
theorem dX5_digest_5 : decode cX5_digest 5 = .ok (.istore_n 3, 1) := by decide +kernel
theorem dX5_digest_6 : decode cX5_digest 6 = .ok (.iload_n 3, 1) := by decide +kernel
theorem dX5_digest_7 : decode cX5_digest 7 = .ok (.bipush 9, 2) := by decide +kernel
theorem dX5_digest_9 : decode cX5_digest 9 = .ok (.if_icmp .ge 22, 3) := by decide +kernel
theorem dX5_digest_12 : decode cX5_digest 12 = .ok (.ldc2_w 262, 3) := by decide +kernel
theorem dX5_digest_15 : decode cX5_digest 15 = .ok (.lload_n 1, 1) := by decide +kernel
theorem dX5_digest_16 : decode cX5_digest 16 = .ok (.lmul, 1) := by decide +kernel
theorem dX5_digest_17 : decode cX5_digest 17 = .ok (.aload_n 0, 1) := by decide +kernel
theorem dX5_digest_18 : decode cX5_digest 18 = .ok (.iload_n 3, 1) := by decide +kernel
theorem dX5_digest_19 : decode cX5_digest 19 = .ok (.invokevirtual 257, 3) := by decide +kernel
theorem dX5_digest_22 : decode cX5_digest 22 = .ok (.i2l, 1) := by decide +kernel
theorem dX5_digest_23 : decode cX5_digest 23 = .ok (.ladd, 1) := by decide +kernel
theorem dX5_digest_24 : decode cX5_digest 24 = .ok (.lstore_n 1, 1) := by decide +kernel
theorem dX5_digest_25 : decode cX5_digest 25 = .ok (.iinc 3 1, 3) := by decide +kernel
theorem dX5_digest_28 : decode cX5_digest 28 = .ok (.goto (-22), 3) := by decide +kernel
theorem dX5_digest_31 : decode cX5_digest 31 = .ok (.iconst 0, 1) := by decide +kernel
theorem dX5_digest_32 : decode cX5_digest 32 = .ok (.istore_n 3, 1) := by decide +kernel
theorem dX5_digest_33 : decode cX5_digest 33 = .ok (.iload_n 3, 1) := by decide +kernel
theorem dX5_digest_34 : decode cX5_digest 34 = .ok (.bipush 24, 2) := by decide +kernel
theorem dX5_digest_36 : decode cX5_digest 36 = .ok (.if_icmp .ge 59, 3) := by decide +kernel
theorem dX5_digest_39 : decode cX5_digest 39 = .ok (.ldc2_w 262, 3) := by decide +kernel
theorem dX5_digest_42 : decode cX5_digest 42 = .ok (.lload_n 1, 1) := by decide +kernel
theorem dX5_digest_43 : decode cX5_digest 43 = .ok (.lmul, 1) := by decide +kernel
theorem dX5_digest_44 : decode cX5_digest 44 = .ok (.aload_n 0, 1) := by decide +kernel
theorem dX5_digest_45 : decode cX5_digest 45 = .ok (.getfield 10, 3) := by decide +kernel
theorem dX5_digest_48 : decode cX5_digest 48 = .ok (.getfield 113, 3) := by decide +kernel
theorem dX5_digest_51 : decode cX5_digest 51 = .ok (.iload_n 3, 1) := by decide +kernel
theorem dX5_digest_52 : decode cX5_digest 52 = .ok (.iaload, 1) := by decide +kernel
theorem dX5_digest_53 : decode cX5_digest 53 = .ok (.i2l, 1) := by decide +kernel
theorem dX5_digest_54 : decode cX5_digest 54 = .ok (.ladd, 1) := by decide +kernel
theorem dX5_digest_55 : decode cX5_digest 55 = .ok (.lstore_n 1, 1) := by decide +kernel
theorem dX5_digest_56 : decode cX5_digest 56 = .ok (.iconst 0, 1) := by decide +kernel
theorem dX5_digest_57 : decode cX5_digest 57 = .ok (.istore 4, 2) := by decide +kernel
theorem dX5_digest_59 : decode cX5_digest 59 = .ok (.iload 4, 2) := by decide +kernel
theorem dX5_digest_61 : decode cX5_digest 61 = .ok (.iconst 4, 1) := by decide +kernel
theorem dX5_digest_62 : decode cX5_digest 62 = .ok (.if_icmp .ge 27, 3) := by decide +kernel
theorem dX5_digest_65 : decode cX5_digest 65 = .ok (.ldc2_w 262, 3) := by decide +kernel
theorem dX5_digest_68 : decode cX5_digest 68 = .ok (.lload_n 1, 1) := by decide +kernel
theorem dX5_digest_69 : decode cX5_digest 69 = .ok (.lmul, 1) := by decide +kernel
theorem dX5_digest_70 : decode cX5_digest 70 = .ok (.aload_n 0, 1) := by decide +kernel
theorem dX5_digest_71 : decode cX5_digest 71 = .ok (.getfield 10, 3) := by decide +kernel
theorem dX5_digest_74 : decode cX5_digest 74 = .ok (.iload 4, 2) := by decide +kernel
theorem dX5_digest_76 : decode cX5_digest 76 = .ok (.iload_n 3, 1) := by decide +kernel
theorem dX5_digest_77 : decode cX5_digest 77 = .ok (.invokevirtual 123, 3) := by decide +kernel
theorem dX5_digest_80 : decode cX5_digest 80 = .ok (.i2l, 1) := by decide +kernel
theorem dX5_digest_81 : decode cX5_digest 81 = .ok (.ladd, 1) := by decide +kernel
theorem dX5_digest_82 : decode cX5_digest 82 = .ok (.lstore_n 1, 1) := by decide +kernel
theorem dX5_digest_83 : decode cX5_digest 83 = .ok (.iinc 4 1, 3) := by decide +kernel
theorem dX5_digest_86 : decode cX5_digest 86 = .ok (.goto (-27), 3) := by decide +kernel
theorem dX5_digest_89 : decode cX5_digest 89 = .ok (.iinc 3 1, 3) := by decide +kernel
theorem dX5_digest_92 : decode cX5_digest 92 = .ok (.goto (-59), 3) := by decide +kernel
theorem dX5_digest_95 : decode cX5_digest 95 = .ok (.iconst 0, 1) := by decide +kernel
theorem dX5_digest_96 : decode cX5_digest 96 = .ok (.istore_n 3, 1) := by decide +kernel
theorem dX5_digest_97 : decode cX5_digest 97 = .ok (.iload_n 3, 1) := by decide +kernel
theorem dX5_digest_98 : decode cX5_digest 98 = .ok (.iconst 4, 1) := by decide +kernel
theorem dX5_digest_99 : decode cX5_digest 99 = .ok (.if_icmp .ge 43, 3) := by decide +kernel
theorem dX5_digest_102 : decode cX5_digest 102 = .ok (.iconst 0, 1) := by decide +kernel
theorem dX5_digest_103 : decode cX5_digest 103 = .ok (.istore 4, 2) := by decide +kernel
theorem dX5_digest_105 : decode cX5_digest 105 = .ok (.iload 4, 2) := by decide +kernel
theorem dX5_digest_107 : decode cX5_digest 107 = .ok (.bipush 6, 2) := by decide +kernel
theorem dX5_digest_109 : decode cX5_digest 109 = .ok (.if_icmp .ge 27, 3) := by decide +kernel
theorem dX5_digest_112 : decode cX5_digest 112 = .ok (.ldc2_w 262, 3) := by decide +kernel
theorem dX5_digest_115 : decode cX5_digest 115 = .ok (.lload_n 1, 1) := by decide +kernel
theorem dX5_digest_116 : decode cX5_digest 116 = .ok (.lmul, 1) := by decide +kernel
theorem dX5_digest_117 : decode cX5_digest 117 = .ok (.aload_n 0, 1) := by decide +kernel
theorem dX5_digest_118 : decode cX5_digest 118 = .ok (.getfield 10, 3) := by decide +kernel
theorem dX5_digest_121 : decode cX5_digest 121 = .ok (.iload_n 3, 1) := by decide +kernel
theorem dX5_digest_122 : decode cX5_digest 122 = .ok (.iload 4, 2) := by decide +kernel
theorem dX5_digest_124 : decode cX5_digest 124 = .ok (.invokevirtual 242, 3) := by decide +kernel
theorem dX5_digest_127 : decode cX5_digest 127 = .ok (.i2l, 1) := by decide +kernel
theorem dX5_digest_128 : decode cX5_digest 128 = .ok (.ladd, 1) := by decide +kernel
theorem dX5_digest_129 : decode cX5_digest 129 = .ok (.lstore_n 1, 1) := by decide +kernel
theorem dX5_digest_130 : decode cX5_digest 130 = .ok (.iinc 4 1, 3) := by decide +kernel
theorem dX5_digest_133 : decode cX5_digest 133 = .ok (.goto (-28), 3) := by decide +kernel
theorem dX5_digest_136 : decode cX5_digest 136 = .ok (.iinc 3 1, 3) := by decide +kernel
theorem dX5_digest_139 : decode cX5_digest 139 = .ok (.goto (-42), 3) := by decide +kernel
theorem dX5_digest_142 : decode cX5_digest 142 = .ok (.aload_n 0, 1) := by decide +kernel
theorem dX5_digest_143 : decode cX5_digest 143 = .ok (.invokevirtual 117, 3) := by decide +kernel
theorem dX5_digest_146 : decode cX5_digest 146 = .ok (.ldc2_w 262, 3) := by decide +kernel
theorem dX5_digest_149 : decode cX5_digest 149 = .ok (.lload_n 1, 1) := by decide +kernel
theorem dX5_digest_150 : decode cX5_digest 150 = .ok (.lmul, 1) := by decide +kernel
theorem dX5_digest_151 : decode cX5_digest 151 = .ok (.aload_n 0, 1) := by decide +kernel
theorem dX5_digest_152 : decode cX5_digest 152 = .ok (.getfield 26, 3) := by decide +kernel
theorem dX5_digest_155 : decode cX5_digest 155 = .ok (.getfield 148, 3) := by decide +kernel
theorem dX5_digest_158 : decode cX5_digest 158 = .ok (.i2l, 1) := by decide +kernel
theorem dX5_digest_159 : decode cX5_digest 159 = .ok (.ladd, 1) := by decide +kernel
theorem dX5_digest_160 : decode cX5_digest 160 = .ok (.lstore_n 1, 1) := by decide +kernel
theorem dX5_digest_161 : decode cX5_digest 161 = .ok (.ldc2_w 262, 3) := by decide +kernel
theorem dX5_digest_164 : decode cX5_digest 164 = .ok (.lload_n 1, 1) := by decide +kernel
theorem dX5_digest_165 : decode cX5_digest 165 = .ok (.lmul, 1) := by decide +kernel
theorem dX5_digest_166 : decode cX5_digest 166 = .ok (.aload_n 0, 1) := by decide +kernel
theorem dX5_digest_167 : decode cX5_digest 167 = .ok (.getfield 26, 3) := by decide +kernel
theorem dX5_digest_170 : decode cX5_digest 170 = .ok (.invokevirtual 177, 3) := by decide +kernel
theorem dX5_digest_173 : decode cX5_digest 173 = .ok (.i2l, 1) := by decide +kernel
theorem dX5_digest_174 : decode cX5_digest 174 = .ok (.ladd, 1) := by decide +kernel
theorem dX5_digest_175 : decode cX5_digest 175 = .ok (.lstore_n 1, 1) := by decide +kernel
theorem dX5_digest_176 : decode cX5_digest 176 = .ok (.iconst 0, 1) := by decide +kernel
theorem dX5_digest_177 : decode cX5_digest 177 = .ok (.istore_n 3, 1) := by decide +kernel
theorem dX5_digest_178 : decode cX5_digest 178 = .ok (.iload_n 3, 1) := by decide +kernel
theorem dX5_digest_179 : decode cX5_digest 179 = .ok (.aload_n 0, 1) := by decide +kernel
theorem dX5_digest_180 : decode cX5_digest 180 = .ok (.getfield 26, 3) := by decide +kernel
theorem dX5_digest_183 : decode cX5_digest 183 = .ok (.getfield 148, 3) := by decide +kernel
theorem dX5_digest_186 : decode cX5_digest 186 = .ok (.if_icmp .ge 29, 3) := by decide +kernel
theorem dX5_digest_189 : decode cX5_digest 189 = .ok (.ldc2_w 262, 3) := by decide +kernel
theorem dX5_digest_192 : decode cX5_digest 192 = .ok (.lload_n 1, 1) := by decide +kernel
theorem dX5_digest_193 : decode cX5_digest 193 = .ok (.lmul, 1) := by decide +kernel
theorem dX5_digest_194 : decode cX5_digest 194 = .ok (.aload_n 0, 1) := by decide +kernel
theorem dX5_digest_195 : decode cX5_digest 195 = .ok (.iload_n 3, 1) := by decide +kernel
theorem dX5_digest_196 : decode cX5_digest 196 = .ok (.aload_n 0, 1) := by decide +kernel
theorem dX5_digest_197 : decode cX5_digest 197 = .ok (.getfield 33, 3) := by decide +kernel
theorem dX5_digest_200 : decode cX5_digest 200 = .ok (.getfield 201, 3) := by decide +kernel
theorem dX5_digest_203 : decode cX5_digest 203 = .ok (.invokevirtual 204, 3) := by decide +kernel
theorem dX5_digest_206 : decode cX5_digest 206 = .ok (.i2l, 1) := by decide +kernel
theorem dX5_digest_207 : decode cX5_digest 207 = .ok (.ladd, 1) := by decide +kernel
theorem dX5_digest_208 : decode cX5_digest 208 = .ok (.lstore_n 1, 1) := by decide +kernel
theorem dX5_digest_209 : decode cX5_digest 209 = .ok (.iinc 3 1, 3) := by decide +kernel
theorem dX5_digest_212 : decode cX5_digest 212 = .ok (.goto (-34), 3) := by decide +kernel
theorem dX5_digest_215 : decode cX5_digest 215 = .ok (.lload_n 1, 1) := by decide +kernel
theorem dX5_digest_216 : decode cX5_digest 216 = .ok (.lreturn, 1) := by decide +kernel
theorem dX5_counter_0 : decode cX5_counter 0 = .ok (.iload_n 1, 1) := by decide +kernel
theorem dX5_counter_1 : decode cX5_counter 1 = .ok (.tableswitch 102 0 7 #[47, 52, 57, 62, 70, 78, 86, 94], 47) := by decide +kernel
theorem dX5_counter_48 : decode cX5_counter 48 = .ok (.aload_n 0, 1) := by decide +kernel
theorem dX5_counter_49 : decode cX5_counter 49 = .ok (.getfield 44, 3) := by decide +kernel
theorem dX5_counter_52 : decode cX5_counter 52 = .ok (.ireturn, 1) := by decide +kernel
theorem dX5_counter_53 : decode cX5_counter 53 = .ok (.aload_n 0, 1) := by decide +kernel
theorem dX5_counter_54 : decode cX5_counter 54 = .ok (.getfield 48, 3) := by decide +kernel
theorem dX5_counter_57 : decode cX5_counter 57 = .ok (.ireturn, 1) := by decide +kernel
theorem dX5_counter_58 : decode cX5_counter 58 = .ok (.aload_n 0, 1) := by decide +kernel
theorem dX5_counter_59 : decode cX5_counter 59 = .ok (.getfield 51, 3) := by decide +kernel
theorem dX5_counter_62 : decode cX5_counter 62 = .ok (.ireturn, 1) := by decide +kernel
theorem dX5_counter_63 : decode cX5_counter 63 = .ok (.aload_n 0, 1) := by decide +kernel
theorem dX5_counter_64 : decode cX5_counter 64 = .ok (.getfield 40, 3) := by decide +kernel
theorem dX5_counter_67 : decode cX5_counter 67 = .ok (.getfield 264, 3) := by decide +kernel
theorem dX5_counter_70 : decode cX5_counter 70 = .ok (.ireturn, 1) := by decide +kernel
theorem dX5_counter_71 : decode cX5_counter 71 = .ok (.aload_n 0, 1) := by decide +kernel
theorem dX5_counter_72 : decode cX5_counter 72 = .ok (.getfield 33, 3) := by decide +kernel
theorem dX5_counter_75 : decode cX5_counter 75 = .ok (.getfield 267, 3) := by decide +kernel
theorem dX5_counter_78 : decode cX5_counter 78 = .ok (.ireturn, 1) := by decide +kernel
theorem dX5_counter_79 : decode cX5_counter 79 = .ok (.aload_n 0, 1) := by decide +kernel
theorem dX5_counter_80 : decode cX5_counter 80 = .ok (.getfield 33, 3) := by decide +kernel
theorem dX5_counter_83 : decode cX5_counter 83 = .ok (.getfield 270, 3) := by decide +kernel
theorem dX5_counter_86 : decode cX5_counter 86 = .ok (.ireturn, 1) := by decide +kernel
theorem dX5_counter_87 : decode cX5_counter 87 = .ok (.aload_n 0, 1) := by decide +kernel
theorem dX5_counter_88 : decode cX5_counter 88 = .ok (.getfield 33, 3) := by decide +kernel
theorem dX5_counter_91 : decode cX5_counter 91 = .ok (.getfield 201, 3) := by decide +kernel
theorem dX5_counter_94 : decode cX5_counter 94 = .ok (.ireturn, 1) := by decide +kernel
theorem dX5_counter_95 : decode cX5_counter 95 = .ok (.aload_n 0, 1) := by decide +kernel
theorem dX5_counter_96 : decode cX5_counter 96 = .ok (.getfield 10, 3) := by decide +kernel
theorem dX5_counter_99 : decode cX5_counter 99 = .ok (.getfield 162, 3) := by decide +kernel
theorem dX5_counter_102 : decode cX5_counter 102 = .ok (.ireturn, 1) := by decide +kernel
theorem dX5_counter_103 : decode cX5_counter 103 = .ok (.aload_n 0, 1) := by decide +kernel
theorem dX5_counter_104 : decode cX5_counter 104 = .ok (.getfield 19, 3) := by decide +kernel
theorem dX5_counter_107 : decode cX5_counter 107 = .ok (.getfield 103, 3) := by decide +kernel
theorem dX5_counter_110 : decode cX5_counter 110 = .ok (.ireturn, 1) := by decide +kernel
theorem dX5_refuseBad_0 : decode cX5_refuseBad 0 = .ok (.aload_n 0, 1) := by decide +kernel
theorem dX5_refuseBad_1 : decode cX5_refuseBad 1 = .ok (.dup, 1) := by decide +kernel
theorem dX5_refuseBad_2 : decode cX5_refuseBad 2 = .ok (.getfield 44, 3) := by decide +kernel
theorem dX5_refuseBad_5 : decode cX5_refuseBad 5 = .ok (.iconst 1, 1) := by decide +kernel
theorem dX5_refuseBad_6 : decode cX5_refuseBad 6 = .ok (.iadd, 1) := by decide +kernel
theorem dX5_refuseBad_7 : decode cX5_refuseBad 7 = .ok (.putfield 44, 3) := by decide +kernel
theorem dX5_refuseBad_10 : decode cX5_refuseBad 10 = .ok (.bipush (-2), 2) := by decide +kernel
theorem dX5_refuseBad_12 : decode cX5_refuseBad 12 = .ok (.ireturn, 1) := by decide +kernel
theorem dX5_refuseNo_0 : decode cX5_refuseNo 0 = .ok (.aload_n 0, 1) := by decide +kernel
theorem dX5_refuseNo_1 : decode cX5_refuseNo 1 = .ok (.dup, 1) := by decide +kernel
theorem dX5_refuseNo_2 : decode cX5_refuseNo 2 = .ok (.getfield 48, 3) := by decide +kernel
theorem dX5_refuseNo_5 : decode cX5_refuseNo 5 = .ok (.iconst 1, 1) := by decide +kernel
theorem dX5_refuseNo_6 : decode cX5_refuseNo 6 = .ok (.iadd, 1) := by decide +kernel
theorem dX5_refuseNo_7 : decode cX5_refuseNo 7 = .ok (.putfield 48, 3) := by decide +kernel
theorem dX5_refuseNo_10 : decode cX5_refuseNo 10 = .ok (.bipush (-3), 2) := by decide +kernel
theorem dX5_refuseNo_12 : decode cX5_refuseNo 12 = .ok (.ireturn, 1) := by decide +kernel
theorem dX5_refuseFull_0 : decode cX5_refuseFull 0 = .ok (.aload_n 0, 1) := by decide +kernel
theorem dX5_refuseFull_1 : decode cX5_refuseFull 1 = .ok (.dup, 1) := by decide +kernel
theorem dX5_refuseFull_2 : decode cX5_refuseFull 2 = .ok (.getfield 51, 3) := by decide +kernel
theorem dX5_refuseFull_5 : decode cX5_refuseFull 5 = .ok (.iconst 1, 1) := by decide +kernel
theorem dX5_refuseFull_6 : decode cX5_refuseFull 6 = .ok (.iadd, 1) := by decide +kernel
theorem dX5_refuseFull_7 : decode cX5_refuseFull 7 = .ok (.putfield 51, 3) := by decide +kernel
theorem dX5_refuseFull_10 : decode cX5_refuseFull 10 = .ok (.bipush (-4), 2) := by decide +kernel
theorem dX5_refuseFull_12 : decode cX5_refuseFull 12 = .ok (.ireturn, 1) := by decide +kernel
theorem dX5_within_0 : decode cX5_within 0 = .ok (.iload_n 0, 1) := by decide +kernel
theorem dX5_within_1 : decode cX5_within 1 = .ok (.iload_n 1, 1) := by decide +kernel
theorem dX5_within_2 : decode cX5_within 2 = .ok (.if_icmp .lt 12, 3) := by decide +kernel
theorem dX5_within_5 : decode cX5_within 5 = .ok (.iload_n 0, 1) := by decide +kernel
theorem dX5_within_6 : decode cX5_within 6 = .ok (.iload_n 2, 1) := by decide +kernel
theorem dX5_within_7 : decode cX5_within 7 = .ok (.if_icmp .gt 7, 3) := by decide +kernel
theorem dX5_within_10 : decode cX5_within 10 = .ok (.iconst 1, 1) := by decide +kernel
theorem dX5_within_11 : decode cX5_within 11 = .ok (.goto 4, 3) := by decide +kernel
theorem dX5_within_14 : decode cX5_within 14 = .ok (.iconst 0, 1) := by decide +kernel
theorem dX5_within_15 : decode cX5_within 15 = .ok (.ireturn, 1) := by decide +kernel
theorem dX5_isLayer_0 : decode cX5_isLayer 0 = .ok (.iload_n 0, 1) := by decide +kernel
theorem dX5_isLayer_1 : decode cX5_isLayer 1 = .ok (.iconst 0, 1) := by decide +kernel
theorem dX5_isLayer_2 : decode cX5_isLayer 2 = .ok (.iconst 3, 1) := by decide +kernel
theorem dX5_isLayer_3 : decode cX5_isLayer 3 = .ok (.invokestatic 58, 3) := by decide +kernel
theorem dX5_isLayer_6 : decode cX5_isLayer 6 = .ok (.ireturn, 1) := by decide +kernel
theorem dX5_isDistrict_0 : decode cX5_isDistrict 0 = .ok (.iload_n 0, 1) := by decide +kernel
theorem dX5_isDistrict_1 : decode cX5_isDistrict 1 = .ok (.iconst 0, 1) := by decide +kernel
theorem dX5_isDistrict_2 : decode cX5_isDistrict 2 = .ok (.iconst 5, 1) := by decide +kernel
theorem dX5_isDistrict_3 : decode cX5_isDistrict 3 = .ok (.invokestatic 58, 3) := by decide +kernel
theorem dX5_isDistrict_6 : decode cX5_isDistrict 6 = .ok (.ireturn, 1) := by decide +kernel
theorem dX5_isBlock_0 : decode cX5_isBlock 0 = .ok (.iload_n 0, 1) := by decide +kernel
theorem dX5_isBlock_1 : decode cX5_isBlock 1 = .ok (.iconst 0, 1) := by decide +kernel
theorem dX5_isBlock_2 : decode cX5_isBlock 2 = .ok (.bipush 23, 2) := by decide +kernel
theorem dX5_isBlock_4 : decode cX5_isBlock 4 = .ok (.invokestatic 58, 3) := by decide +kernel
theorem dX5_isBlock_7 : decode cX5_isBlock 7 = .ok (.ireturn, 1) := by decide +kernel
theorem dX5_isName_0 : decode cX5_isName 0 = .ok (.iload_n 0, 1) := by decide +kernel
theorem dX5_isName_1 : decode cX5_isName 1 = .ok (.iconst 0, 1) := by decide +kernel
theorem dX5_isName_2 : decode cX5_isName 2 = .ok (.bipush 7, 2) := by decide +kernel
theorem dX5_isName_4 : decode cX5_isName 4 = .ok (.invokestatic 58, 3) := by decide +kernel
theorem dX5_isName_7 : decode cX5_isName 7 = .ok (.ireturn, 1) := by decide +kernel
theorem dX5_isRectangle_0 : decode cX5_isRectangle 0 = .ok (.iload_n 0, 1) := by decide +kernel
theorem dX5_isRectangle_1 : decode cX5_isRectangle 1 = .ok (.invokestatic 89, 3) := by decide +kernel
theorem dX5_isRectangle_4 : decode cX5_isRectangle 4 = .ok (.ifCond .eq 32, 3) := by decide +kernel
theorem dX5_isRectangle_7 : decode cX5_isRectangle 7 = .ok (.iload_n 1, 1) := by decide +kernel
theorem dX5_isRectangle_8 : decode cX5_isRectangle 8 = .ok (.invokestatic 89, 3) := by decide +kernel
theorem dX5_isRectangle_11 : decode cX5_isRectangle 11 = .ok (.ifCond .eq 25, 3) := by decide +kernel
theorem dX5_isRectangle_14 : decode cX5_isRectangle 14 = .ok (.iload_n 0, 1) := by decide +kernel
theorem dX5_isRectangle_15 : decode cX5_isRectangle 15 = .ok (.iconst 4, 1) := by decide +kernel
theorem dX5_isRectangle_16 : decode cX5_isRectangle 16 = .ok (.idiv, 1) := by decide +kernel
theorem dX5_isRectangle_17 : decode cX5_isRectangle 17 = .ok (.iload_n 1, 1) := by decide +kernel
theorem dX5_isRectangle_18 : decode cX5_isRectangle 18 = .ok (.iconst 4, 1) := by decide +kernel
theorem dX5_isRectangle_19 : decode cX5_isRectangle 19 = .ok (.idiv, 1) := by decide +kernel
theorem dX5_isRectangle_20 : decode cX5_isRectangle 20 = .ok (.if_icmp .gt 16, 3) := by decide +kernel
theorem dX5_isRectangle_23 : decode cX5_isRectangle 23 = .ok (.iload_n 0, 1) := by decide +kernel
theorem dX5_isRectangle_24 : decode cX5_isRectangle 24 = .ok (.iconst 4, 1) := by decide +kernel
theorem dX5_isRectangle_25 : decode cX5_isRectangle 25 = .ok (.irem, 1) := by decide +kernel
theorem dX5_isRectangle_26 : decode cX5_isRectangle 26 = .ok (.iload_n 1, 1) := by decide +kernel
theorem dX5_isRectangle_27 : decode cX5_isRectangle 27 = .ok (.iconst 4, 1) := by decide +kernel
theorem dX5_isRectangle_28 : decode cX5_isRectangle 28 = .ok (.irem, 1) := by decide +kernel
theorem dX5_isRectangle_29 : decode cX5_isRectangle 29 = .ok (.if_icmp .gt 7, 3) := by decide +kernel
theorem dX5_isRectangle_32 : decode cX5_isRectangle 32 = .ok (.iconst 1, 1) := by decide +kernel
theorem dX5_isRectangle_33 : decode cX5_isRectangle 33 = .ok (.goto 4, 3) := by decide +kernel
theorem dX5_isRectangle_36 : decode cX5_isRectangle 36 = .ok (.iconst 0, 1) := by decide +kernel
theorem dX5_isRectangle_37 : decode cX5_isRectangle 37 = .ok (.ireturn, 1) := by decide +kernel
theorem dX5_isStyle_0 : decode cX5_isStyle 0 = .ok (.aload_n 0, 1) := by decide +kernel
theorem dX5_isStyle_1 : decode cX5_isStyle 1 = .ok (.invokevirtual 117, 3) := by decide +kernel
theorem dX5_isStyle_4 : decode cX5_isStyle 4 = .ok (.iload_n 1, 1) := by decide +kernel
theorem dX5_isStyle_5 : decode cX5_isStyle 5 = .ok (.iconst 0, 1) := by decide +kernel
theorem dX5_isStyle_6 : decode cX5_isStyle 6 = .ok (.aload_n 0, 1) := by decide +kernel
theorem dX5_isStyle_7 : decode cX5_isStyle 7 = .ok (.getfield 26, 3) := by decide +kernel
theorem dX5_isStyle_10 : decode cX5_isStyle 10 = .ok (.getfield 148, 3) := by decide +kernel
theorem dX5_isStyle_13 : decode cX5_isStyle 13 = .ok (.iconst 1, 1) := by decide +kernel
theorem dX5_isStyle_14 : decode cX5_isStyle 14 = .ok (.isub, 1) := by decide +kernel
theorem dX5_isStyle_15 : decode cX5_isStyle 15 = .ok (.invokestatic 58, 3) := by decide +kernel
theorem dX5_isStyle_18 : decode cX5_isStyle 18 = .ok (.ireturn, 1) := by decide +kernel
theorem dX5_sortStyles_0 : decode cX5_sortStyles 0 = .ok (.aload_n 0, 1) := by decide +kernel
theorem dX5_sortStyles_1 : decode cX5_sortStyles 1 = .ok (.getfield 26, 3) := by decide +kernel
theorem dX5_sortStyles_4 : decode cX5_sortStyles 4 = .ok (.aload_n 0, 1) := by decide +kernel
theorem dX5_sortStyles_5 : decode cX5_sortStyles 5 = .ok (.getfield 10, 3) := by decide +kernel
theorem dX5_sortStyles_8 : decode cX5_sortStyles 8 = .ok (.aload_n 0, 1) := by decide +kernel
theorem dX5_sortStyles_9 : decode cX5_sortStyles 9 = .ok (.getfield 10, 3) := by decide +kernel
theorem dX5_sortStyles_12 : decode cX5_sortStyles 12 = .ok (.getfield 162, 3) := by decide +kernel
theorem dX5_sortStyles_15 : decode cX5_sortStyles 15 = .ok (.invokevirtual 173, 3) := by decide +kernel
theorem dX5_sortStyles_18 : decode cX5_sortStyles 18 = .ok (.return_, 1) := by decide +kernel
theorem dX5_sheetsOf_0 : decode cX5_sheetsOf 0 = .ok (.aload_n 0, 1) := by decide +kernel
theorem dX5_sheetsOf_1 : decode cX5_sheetsOf 1 = .ok (.getfield 33, 3) := by decide +kernel
theorem dX5_sheetsOf_4 : decode cX5_sheetsOf 4 = .ok (.aload_n 0, 1) := by decide +kernel
theorem dX5_sheetsOf_5 : decode cX5_sheetsOf 5 = .ok (.getfield 10, 3) := by decide +kernel
theorem dX5_sheetsOf_8 : decode cX5_sheetsOf 8 = .ok (.aload_n 0, 1) := by decide +kernel
theorem dX5_sheetsOf_9 : decode cX5_sheetsOf 9 = .ok (.getfield 26, 3) := by decide +kernel
theorem dX5_sheetsOf_12 : decode cX5_sheetsOf 12 = .ok (.getfield 170, 3) := by decide +kernel
theorem dX5_sheetsOf_15 : decode cX5_sheetsOf 15 = .ok (.iload_n 1, 1) := by decide +kernel
theorem dX5_sheetsOf_16 : decode cX5_sheetsOf 16 = .ok (.iaload, 1) := by decide +kernel
theorem dX5_sheetsOf_17 : decode cX5_sheetsOf 17 = .ok (.iload_n 2, 1) := by decide +kernel
theorem dX5_sheetsOf_18 : decode cX5_sheetsOf 18 = .ok (.invokevirtual 207, 3) := by decide +kernel
theorem dX5_sheetsOf_21 : decode cX5_sheetsOf 21 = .ok (.aload_n 0, 1) := by decide +kernel
theorem dX5_sheetsOf_22 : decode cX5_sheetsOf 22 = .ok (.getfield 33, 3) := by decide +kernel
theorem dX5_sheetsOf_25 : decode cX5_sheetsOf 25 = .ok (.getfield 220, 3) := by decide +kernel
theorem dX5_sheetsOf_28 : decode cX5_sheetsOf 28 = .ok (.ifCond .eq 7, 3) := by decide +kernel
theorem dX5_sheetsOf_31 : decode cX5_sheetsOf 31 = .ok (.iconst 0, 1) := by decide +kernel
theorem dX5_sheetsOf_32 : decode cX5_sheetsOf 32 = .ok (.goto 10, 3) := by decide +kernel
theorem dX5_sheetsOf_35 : decode cX5_sheetsOf 35 = .ok (.aload_n 0, 1) := by decide +kernel
theorem dX5_sheetsOf_36 : decode cX5_sheetsOf 36 = .ok (.getfield 33, 3) := by decide +kernel
theorem dX5_sheetsOf_39 : decode cX5_sheetsOf 39 = .ok (.getfield 273, 3) := by decide +kernel
theorem dX5_sheetsOf_42 : decode cX5_sheetsOf 42 = .ok (.ireturn, 1) := by decide +kernel
theorem dX5_sheetsOfAll_0 : decode cX5_sheetsOfAll 0 = .ok (.iconst 0, 1) := by decide +kernel
theorem dX5_sheetsOfAll_1 : decode cX5_sheetsOfAll 1 = .ok (.istore_n 2, 1) := by decide +kernel
theorem dX5_sheetsOfAll_2 : decode cX5_sheetsOfAll 2 = .ok (.iconst 0, 1) := by decide +kernel
theorem dX5_sheetsOfAll_3 : decode cX5_sheetsOfAll 3 = .ok (.istore_n 3, 1) := by decide +kernel
theorem dX5_sheetsOfAll_4 : decode cX5_sheetsOfAll 4 = .ok (.iload_n 3, 1) := by decide +kernel
theorem dX5_sheetsOfAll_5 : decode cX5_sheetsOfAll 5 = .ok (.aload_n 0, 1) := by decide +kernel
theorem dX5_sheetsOfAll_6 : decode cX5_sheetsOfAll 6 = .ok (.getfield 26, 3) := by decide +kernel
theorem dX5_sheetsOfAll_9 : decode cX5_sheetsOfAll 9 = .ok (.getfield 148, 3) := by decide +kernel
theorem dX5_sheetsOfAll_12 : decode cX5_sheetsOfAll 12 = .ok (.if_icmp .ge 31, 3) := by decide +kernel
theorem dX5_sheetsOfAll_15 : decode cX5_sheetsOfAll 15 = .ok (.iload_n 2, 1) := by decide +kernel
theorem dX5_sheetsOfAll_16 : decode cX5_sheetsOfAll 16 = .ok (.aload_n 0, 1) := by decide +kernel
theorem dX5_sheetsOfAll_17 : decode cX5_sheetsOfAll 17 = .ok (.getfield 26, 3) := by decide +kernel
theorem dX5_sheetsOfAll_20 : decode cX5_sheetsOfAll 20 = .ok (.iload_n 3, 1) := by decide +kernel
theorem dX5_sheetsOfAll_21 : decode cX5_sheetsOfAll 21 = .ok (.aload_n 0, 1) := by decide +kernel
theorem dX5_sheetsOfAll_22 : decode cX5_sheetsOfAll 22 = .ok (.getfield 10, 3) := by decide +kernel
theorem dX5_sheetsOfAll_25 : decode cX5_sheetsOfAll 25 = .ok (.invokevirtual 155, 3) := by decide +kernel
theorem dX5_sheetsOfAll_28 : decode cX5_sheetsOfAll 28 = .ok (.aload_n 0, 1) := by decide +kernel
theorem dX5_sheetsOfAll_29 : decode cX5_sheetsOfAll 29 = .ok (.iload_n 3, 1) := by decide +kernel
theorem dX5_sheetsOfAll_30 : decode cX5_sheetsOfAll 30 = .ok (.iload_n 1, 1) := by decide +kernel
theorem dX5_sheetsOfAll_31 : decode cX5_sheetsOfAll 31 = .ok (.invokevirtual 204, 3) := by decide +kernel
theorem dX5_sheetsOfAll_34 : decode cX5_sheetsOfAll 34 = .ok (.imul, 1) := by decide +kernel
theorem dX5_sheetsOfAll_35 : decode cX5_sheetsOfAll 35 = .ok (.iadd, 1) := by decide +kernel
theorem dX5_sheetsOfAll_36 : decode cX5_sheetsOfAll 36 = .ok (.istore_n 2, 1) := by decide +kernel
theorem dX5_sheetsOfAll_37 : decode cX5_sheetsOfAll 37 = .ok (.iinc 3 1, 3) := by decide +kernel
theorem dX5_sheetsOfAll_40 : decode cX5_sheetsOfAll 40 = .ok (.goto (-36), 3) := by decide +kernel
theorem dX5_sheetsOfAll_43 : decode cX5_sheetsOfAll 43 = .ok (.iload_n 2, 1) := by decide +kernel
theorem dX5_sheetsOfAll_44 : decode cX5_sheetsOfAll 44 = .ok (.ireturn, 1) := by decide +kernel
theorem dX5_hasBareStyle_0 : decode cX5_hasBareStyle 0 = .ok (.iconst 0, 1) := by decide +kernel
theorem dX5_hasBareStyle_1 : decode cX5_hasBareStyle 1 = .ok (.istore_n 1, 1) := by decide +kernel
theorem dX5_hasBareStyle_2 : decode cX5_hasBareStyle 2 = .ok (.iload_n 1, 1) := by decide +kernel
theorem dX5_hasBareStyle_3 : decode cX5_hasBareStyle 3 = .ok (.aload_n 0, 1) := by decide +kernel
theorem dX5_hasBareStyle_4 : decode cX5_hasBareStyle 4 = .ok (.getfield 26, 3) := by decide +kernel
theorem dX5_hasBareStyle_7 : decode cX5_hasBareStyle 7 = .ok (.getfield 148, 3) := by decide +kernel
theorem dX5_hasBareStyle_10 : decode cX5_hasBareStyle 10 = .ok (.if_icmp .ge 20, 3) := by decide +kernel
theorem dX5_hasBareStyle_13 : decode cX5_hasBareStyle 13 = .ok (.aload_n 0, 1) := by decide +kernel
theorem dX5_hasBareStyle_14 : decode cX5_hasBareStyle 14 = .ok (.iload_n 1, 1) := by decide +kernel
theorem dX5_hasBareStyle_15 : decode cX5_hasBareStyle 15 = .ok (.iconst 0, 1) := by decide +kernel
theorem dX5_hasBareStyle_16 : decode cX5_hasBareStyle 16 = .ok (.invokevirtual 204, 3) := by decide +kernel
theorem dX5_hasBareStyle_19 : decode cX5_hasBareStyle 19 = .ok (.ifCond .ne 5, 3) := by decide +kernel
theorem dX5_hasBareStyle_22 : decode cX5_hasBareStyle 22 = .ok (.iconst 1, 1) := by decide +kernel
theorem dX5_hasBareStyle_23 : decode cX5_hasBareStyle 23 = .ok (.ireturn, 1) := by decide +kernel
theorem dX5_hasBareStyle_24 : decode cX5_hasBareStyle 24 = .ok (.iinc 1 1, 3) := by decide +kernel
theorem dX5_hasBareStyle_27 : decode cX5_hasBareStyle 27 = .ok (.goto (-25), 3) := by decide +kernel
theorem dX5_hasBareStyle_30 : decode cX5_hasBareStyle 30 = .ok (.iconst 0, 1) := by decide +kernel
theorem dX5_hasBareStyle_31 : decode cX5_hasBareStyle 31 = .ok (.ireturn, 1) := by decide +kernel
theorem dJ6_bitCount_0f7a4_0 : decode cJ6_bitCount_0f7a4 0 = .ok (.iload_n 0, 1) := by decide +kernel
theorem dJ6_bitCount_0f7a4_1 : decode cJ6_bitCount_0f7a4 1 = .ok (.iload_n 0, 1) := by decide +kernel
theorem dJ6_bitCount_0f7a4_2 : decode cJ6_bitCount_0f7a4 2 = .ok (.iconst 1, 1) := by decide +kernel
theorem dJ6_bitCount_0f7a4_3 : decode cJ6_bitCount_0f7a4 3 = .ok (.iushr, 1) := by decide +kernel
theorem dJ6_bitCount_0f7a4_4 : decode cJ6_bitCount_0f7a4 4 = .ok (.ldc_w 265, 3) := by decide +kernel
theorem dJ6_bitCount_0f7a4_7 : decode cJ6_bitCount_0f7a4 7 = .ok (.iand, 1) := by decide +kernel
theorem dJ6_bitCount_0f7a4_8 : decode cJ6_bitCount_0f7a4 8 = .ok (.isub, 1) := by decide +kernel
theorem dJ6_bitCount_0f7a4_9 : decode cJ6_bitCount_0f7a4 9 = .ok (.istore_n 0, 1) := by decide +kernel
theorem dJ6_bitCount_0f7a4_10 : decode cJ6_bitCount_0f7a4 10 = .ok (.iload_n 0, 1) := by decide +kernel
theorem dJ6_bitCount_0f7a4_11 : decode cJ6_bitCount_0f7a4 11 = .ok (.ldc_w 266, 3) := by decide +kernel
theorem dJ6_bitCount_0f7a4_14 : decode cJ6_bitCount_0f7a4 14 = .ok (.iand, 1) := by decide +kernel
theorem dJ6_bitCount_0f7a4_15 : decode cJ6_bitCount_0f7a4 15 = .ok (.iload_n 0, 1) := by decide +kernel
theorem dJ6_bitCount_0f7a4_16 : decode cJ6_bitCount_0f7a4 16 = .ok (.iconst 2, 1) := by decide +kernel
theorem dJ6_bitCount_0f7a4_17 : decode cJ6_bitCount_0f7a4 17 = .ok (.iushr, 1) := by decide +kernel
theorem dJ6_bitCount_0f7a4_18 : decode cJ6_bitCount_0f7a4 18 = .ok (.ldc_w 266, 3) := by decide +kernel
theorem dJ6_bitCount_0f7a4_21 : decode cJ6_bitCount_0f7a4 21 = .ok (.iand, 1) := by decide +kernel
theorem dJ6_bitCount_0f7a4_22 : decode cJ6_bitCount_0f7a4 22 = .ok (.iadd, 1) := by decide +kernel
theorem dJ6_bitCount_0f7a4_23 : decode cJ6_bitCount_0f7a4 23 = .ok (.istore_n 0, 1) := by decide +kernel
theorem dJ6_bitCount_0f7a4_24 : decode cJ6_bitCount_0f7a4 24 = .ok (.iload_n 0, 1) := by decide +kernel
theorem dJ6_bitCount_0f7a4_25 : decode cJ6_bitCount_0f7a4 25 = .ok (.iload_n 0, 1) := by decide +kernel
theorem dJ6_bitCount_0f7a4_26 : decode cJ6_bitCount_0f7a4 26 = .ok (.iconst 4, 1) := by decide +kernel
theorem dJ6_bitCount_0f7a4_27 : decode cJ6_bitCount_0f7a4 27 = .ok (.iushr, 1) := by decide +kernel
theorem dJ6_bitCount_0f7a4_28 : decode cJ6_bitCount_0f7a4 28 = .ok (.iadd, 1) := by decide +kernel
theorem dJ6_bitCount_0f7a4_29 : decode cJ6_bitCount_0f7a4 29 = .ok (.ldc_w 267, 3) := by decide +kernel
theorem dJ6_bitCount_0f7a4_32 : decode cJ6_bitCount_0f7a4 32 = .ok (.iand, 1) := by decide +kernel
theorem dJ6_bitCount_0f7a4_33 : decode cJ6_bitCount_0f7a4 33 = .ok (.istore_n 0, 1) := by decide +kernel
theorem dJ6_bitCount_0f7a4_34 : decode cJ6_bitCount_0f7a4 34 = .ok (.iload_n 0, 1) := by decide +kernel
theorem dJ6_bitCount_0f7a4_35 : decode cJ6_bitCount_0f7a4 35 = .ok (.iload_n 0, 1) := by decide +kernel
theorem dJ6_bitCount_0f7a4_36 : decode cJ6_bitCount_0f7a4 36 = .ok (.bipush 8, 2) := by decide +kernel
theorem dJ6_bitCount_0f7a4_38 : decode cJ6_bitCount_0f7a4 38 = .ok (.iushr, 1) := by decide +kernel
theorem dJ6_bitCount_0f7a4_39 : decode cJ6_bitCount_0f7a4 39 = .ok (.iadd, 1) := by decide +kernel
theorem dJ6_bitCount_0f7a4_40 : decode cJ6_bitCount_0f7a4 40 = .ok (.istore_n 0, 1) := by decide +kernel
theorem dJ6_bitCount_0f7a4_41 : decode cJ6_bitCount_0f7a4 41 = .ok (.iload_n 0, 1) := by decide +kernel
theorem dJ6_bitCount_0f7a4_42 : decode cJ6_bitCount_0f7a4 42 = .ok (.iload_n 0, 1) := by decide +kernel
theorem dJ6_bitCount_0f7a4_43 : decode cJ6_bitCount_0f7a4 43 = .ok (.bipush 16, 2) := by decide +kernel
theorem dJ6_bitCount_0f7a4_45 : decode cJ6_bitCount_0f7a4 45 = .ok (.iushr, 1) := by decide +kernel
theorem dJ6_bitCount_0f7a4_46 : decode cJ6_bitCount_0f7a4 46 = .ok (.iadd, 1) := by decide +kernel
theorem dJ6_bitCount_0f7a4_47 : decode cJ6_bitCount_0f7a4 47 = .ok (.istore_n 0, 1) := by decide +kernel
theorem dJ6_bitCount_0f7a4_48 : decode cJ6_bitCount_0f7a4 48 = .ok (.iload_n 0, 1) := by decide +kernel
theorem dJ6_bitCount_0f7a4_49 : decode cJ6_bitCount_0f7a4 49 = .ok (.bipush 63, 2) := by decide +kernel
theorem dJ6_bitCount_0f7a4_51 : decode cJ6_bitCount_0f7a4 51 = .ok (.iand, 1) := by decide +kernel
theorem dJ6_bitCount_0f7a4_52 : decode cJ6_bitCount_0f7a4 52 = .ok (.ireturn, 1) := by decide +kernel
theorem dJ9_max_7cf53_0 : decode cJ9_max_7cf53 0 = .ok (.iload_n 0, 1) := by decide +kernel
theorem dJ9_max_7cf53_1 : decode cJ9_max_7cf53 1 = .ok (.iload_n 1, 1) := by decide +kernel
theorem dJ9_max_7cf53_2 : decode cJ9_max_7cf53 2 = .ok (.if_icmp .lt 7, 3) := by decide +kernel
theorem dJ9_max_7cf53_5 : decode cJ9_max_7cf53 5 = .ok (.iload_n 0, 1) := by decide +kernel
theorem dJ9_max_7cf53_6 : decode cJ9_max_7cf53 6 = .ok (.goto 4, 3) := by decide +kernel
theorem dJ9_max_7cf53_9 : decode cJ9_max_7cf53 9 = .ok (.iload_n 1, 1) := by decide +kernel
theorem dJ9_max_7cf53_10 : decode cJ9_max_7cf53 10 = .ok (.ireturn, 1) := by decide +kernel
theorem dJ9_min_7cf53_0 : decode cJ9_min_7cf53 0 = .ok (.iload_n 0, 1) := by decide +kernel
theorem dJ9_min_7cf53_1 : decode cJ9_min_7cf53 1 = .ok (.iload_n 1, 1) := by decide +kernel
theorem dJ9_min_7cf53_2 : decode cJ9_min_7cf53 2 = .ok (.if_icmp .gt 7, 3) := by decide +kernel
theorem dJ9_min_7cf53_5 : decode cJ9_min_7cf53 5 = .ok (.iload_n 0, 1) := by decide +kernel
theorem dJ9_min_7cf53_6 : decode cJ9_min_7cf53 6 = .ok (.goto 4, 3) := by decide +kernel
theorem dJ9_min_7cf53_9 : decode cJ9_min_7cf53 9 = .ok (.iload_n 1, 1) := by decide +kernel
theorem dJ9_min_7cf53_10 : decode cJ9_min_7cf53 10 = .ok (.ireturn, 1) := by decide +kernel
theorem dJ0_length_8abf5_0 : decode cJ0_length_8abf5 0 = .ok (.aload_n 0, 1) := by decide +kernel
theorem dJ0_length_8abf5_1 : decode cJ0_length_8abf5 1 = .ok (.getfield 9, 3) := by decide +kernel
theorem dJ0_length_8abf5_4 : decode cJ0_length_8abf5 4 = .ok (.arraylength, 1) := by decide +kernel
theorem dJ0_length_8abf5_5 : decode cJ0_length_8abf5 5 = .ok (.aload_n 0, 1) := by decide +kernel
theorem dJ0_length_8abf5_6 : decode cJ0_length_8abf5 6 = .ok (.invokevirtual 335, 3) := by decide +kernel
theorem dJ0_length_8abf5_9 : decode cJ0_length_8abf5 9 = .ok (.ishr, 1) := by decide +kernel
theorem dJ0_length_8abf5_10 : decode cJ0_length_8abf5 10 = .ok (.ireturn, 1) := by decide +kernel
theorem dJ0_charAt_5068e_0 : decode cJ0_charAt_5068e 0 = .ok (.aload_n 0, 1) := by decide +kernel
theorem dJ0_charAt_5068e_1 : decode cJ0_charAt_5068e 1 = .ok (.invokevirtual 492, 3) := by decide +kernel
theorem dJ0_charAt_5068e_4 : decode cJ0_charAt_5068e 4 = .ok (.ifCond .eq 12, 3) := by decide +kernel
theorem dJ0_charAt_5068e_7 : decode cJ0_charAt_5068e 7 = .ok (.aload_n 0, 1) := by decide +kernel
theorem dJ0_charAt_5068e_8 : decode cJ0_charAt_5068e 8 = .ok (.getfield 9, 3) := by decide +kernel
theorem dJ0_charAt_5068e_11 : decode cJ0_charAt_5068e 11 = .ok (.iload_n 1, 1) := by decide +kernel
theorem dJ0_charAt_5068e_12 : decode cJ0_charAt_5068e 12 = .ok (.invokestatic 495, 3) := by decide +kernel
theorem dJ0_charAt_5068e_15 : decode cJ0_charAt_5068e 15 = .ok (.ireturn, 1) := by decide +kernel
theorem dJ0_charAt_5068e_16 : decode cJ0_charAt_5068e 16 = .ok (.aload_n 0, 1) := by decide +kernel
theorem dJ0_charAt_5068e_17 : decode cJ0_charAt_5068e 17 = .ok (.getfield 9, 3) := by decide +kernel
theorem dJ0_charAt_5068e_20 : decode cJ0_charAt_5068e 20 = .ok (.iload_n 1, 1) := by decide +kernel
theorem dJ0_charAt_5068e_21 : decode cJ0_charAt_5068e 21 = .ok (.invokestatic 498, 3) := by decide +kernel
theorem dJ0_charAt_5068e_24 : decode cJ0_charAt_5068e 24 = .ok (.ireturn, 1) := by decide +kernel
theorem dJ0_coder_7d493_0 : decode cJ0_coder_7d493 0 = .ok (.getstatic 38, 3) := by decide +kernel
theorem dJ0_coder_7d493_3 : decode cJ0_coder_7d493 3 = .ok (.ifCond .eq 10, 3) := by decide +kernel
theorem dJ0_coder_7d493_6 : decode cJ0_coder_7d493 6 = .ok (.aload_n 0, 1) := by decide +kernel
theorem dJ0_coder_7d493_7 : decode cJ0_coder_7d493 7 = .ok (.getfield 15, 3) := by decide +kernel
theorem dJ0_coder_7d493_10 : decode cJ0_coder_7d493 10 = .ok (.goto 4, 3) := by decide +kernel
theorem dJ0_coder_7d493_13 : decode cJ0_coder_7d493 13 = .ok (.iconst 1, 1) := by decide +kernel
theorem dJ0_coder_7d493_14 : decode cJ0_coder_7d493 14 = .ok (.ireturn, 1) := by decide +kernel
theorem dJ0_isLatin1_aae02_0 : decode cJ0_isLatin1_aae02 0 = .ok (.getstatic 38, 3) := by decide +kernel
theorem dJ0_isLatin1_aae02_3 : decode cJ0_isLatin1_aae02 3 = .ok (.ifCond .eq 14, 3) := by decide +kernel
theorem dJ0_isLatin1_aae02_6 : decode cJ0_isLatin1_aae02 6 = .ok (.aload_n 0, 1) := by decide +kernel
theorem dJ0_isLatin1_aae02_7 : decode cJ0_isLatin1_aae02 7 = .ok (.getfield 15, 3) := by decide +kernel
theorem dJ0_isLatin1_aae02_10 : decode cJ0_isLatin1_aae02 10 = .ok (.ifCond .ne 7, 3) := by decide +kernel
theorem dJ0_isLatin1_aae02_13 : decode cJ0_isLatin1_aae02 13 = .ok (.iconst 1, 1) := by decide +kernel
theorem dJ0_isLatin1_aae02_14 : decode cJ0_isLatin1_aae02 14 = .ok (.goto 4, 3) := by decide +kernel
theorem dJ0_isLatin1_aae02_17 : decode cJ0_isLatin1_aae02 17 = .ok (.iconst 0, 1) := by decide +kernel
theorem dJ0_isLatin1_aae02_18 : decode cJ0_isLatin1_aae02 18 = .ok (.ireturn, 1) := by decide +kernel
theorem dJ0_checkIndex_df160_0 : decode cJ0_checkIndex_df160 0 = .ok (.iload_n 0, 1) := by decide +kernel
theorem dJ0_checkIndex_df160_1 : decode cJ0_checkIndex_df160 1 = .ok (.iload_n 1, 1) := by decide +kernel
theorem dJ0_checkIndex_df160_2 : decode cJ0_checkIndex_df160 2 = .ok (.getstatic 1053, 3) := by decide +kernel
theorem dJ0_checkIndex_df160_5 : decode cJ0_checkIndex_df160 5 = .ok (.invokestatic 1059, 3) := by decide +kernel
theorem dJ0_checkIndex_df160_8 : decode cJ0_checkIndex_df160 8 = .ok (.pop, 1) := by decide +kernel
theorem dJ0_checkIndex_df160_9 : decode cJ0_checkIndex_df160 9 = .ok (.return_, 1) := by decide +kernel
theorem dJ1_charAt_3b067_0 : decode cJ1_charAt_3b067 0 = .ok (.iload_n 1, 1) := by decide +kernel
theorem dJ1_charAt_3b067_1 : decode cJ1_charAt_3b067 1 = .ok (.aload_n 0, 1) := by decide +kernel
theorem dJ1_charAt_3b067_2 : decode cJ1_charAt_3b067 2 = .ok (.arraylength, 1) := by decide +kernel
theorem dJ1_charAt_3b067_3 : decode cJ1_charAt_3b067 3 = .ok (.invokestatic 9, 3) := by decide +kernel
theorem dJ1_charAt_3b067_6 : decode cJ1_charAt_3b067 6 = .ok (.aload_n 0, 1) := by decide +kernel
theorem dJ1_charAt_3b067_7 : decode cJ1_charAt_3b067 7 = .ok (.iload_n 1, 1) := by decide +kernel
theorem dJ1_charAt_3b067_8 : decode cJ1_charAt_3b067 8 = .ok (.baload, 1) := by decide +kernel
theorem dJ1_charAt_3b067_9 : decode cJ1_charAt_3b067 9 = .ok (.sipush 255, 3) := by decide +kernel
theorem dJ1_charAt_3b067_12 : decode cJ1_charAt_3b067 12 = .ok (.iand, 1) := by decide +kernel
theorem dJ1_charAt_3b067_13 : decode cJ1_charAt_3b067 13 = .ok (.i2c, 1) := by decide +kernel
theorem dJ1_charAt_3b067_14 : decode cJ1_charAt_3b067 14 = .ok (.ireturn, 1) := by decide +kernel
theorem dJ2_getChar_3b067_0 : decode cJ2_getChar_3b067 0 = .ok (.getstatic 44, 3) := by decide +kernel
theorem dJ2_getChar_3b067_3 : decode cJ2_getChar_3b067 3 = .ok (.ifCond .ne 25, 3) := by decide +kernel
theorem dJ2_getChar_3b067_6 : decode cJ2_getChar_3b067 6 = .ok (.iload_n 1, 1) := by decide +kernel
theorem dJ2_getChar_3b067_7 : decode cJ2_getChar_3b067 7 = .ok (.ifCond .lt 11, 3) := by decide +kernel
theorem dJ2_getChar_3b067_10 : decode cJ2_getChar_3b067 10 = .ok (.iload_n 1, 1) := by decide +kernel
theorem dJ2_getChar_3b067_11 : decode cJ2_getChar_3b067 11 = .ok (.aload_n 0, 1) := by decide +kernel
theorem dJ2_getChar_3b067_12 : decode cJ2_getChar_3b067 12 = .ok (.invokestatic 48, 3) := by decide +kernel
theorem dJ2_getChar_3b067_15 : decode cJ2_getChar_3b067 15 = .ok (.if_icmp .lt 13, 3) := by decide +kernel
theorem dJ2_getChar_3b067_18 : decode cJ2_getChar_3b067 18 = .ok (.new 52, 3) := by decide +kernel
theorem dJ2_getChar_3b067_21 : decode cJ2_getChar_3b067 21 = .ok (.dup, 1) := by decide +kernel
theorem dJ2_getChar_3b067_22 : decode cJ2_getChar_3b067 22 = .ok (.ldc 54, 2) := by decide +kernel
theorem dJ2_getChar_3b067_24 : decode cJ2_getChar_3b067 24 = .ok (.invokespecial 56, 3) := by decide +kernel
theorem dJ2_getChar_3b067_27 : decode cJ2_getChar_3b067 27 = .ok (.athrow, 1) := by decide +kernel
theorem dJ2_getChar_3b067_28 : decode cJ2_getChar_3b067 28 = .ok (.iload_n 1, 1) := by decide +kernel
theorem dJ2_getChar_3b067_29 : decode cJ2_getChar_3b067 29 = .ok (.iconst 1, 1) := by decide +kernel
theorem dJ2_getChar_3b067_30 : decode cJ2_getChar_3b067 30 = .ok (.ishl, 1) := by decide +kernel
theorem dJ2_getChar_3b067_31 : decode cJ2_getChar_3b067 31 = .ok (.istore_n 1, 1) := by decide +kernel
theorem dJ2_getChar_3b067_32 : decode cJ2_getChar_3b067 32 = .ok (.aload_n 0, 1) := by decide +kernel
theorem dJ2_getChar_3b067_33 : decode cJ2_getChar_3b067 33 = .ok (.iload_n 1, 1) := by decide +kernel
theorem dJ2_getChar_3b067_34 : decode cJ2_getChar_3b067 34 = .ok (.iinc 1 1, 3) := by decide +kernel
theorem dJ2_getChar_3b067_37 : decode cJ2_getChar_3b067 37 = .ok (.baload, 1) := by decide +kernel
theorem dJ2_getChar_3b067_38 : decode cJ2_getChar_3b067 38 = .ok (.sipush 255, 3) := by decide +kernel
theorem dJ2_getChar_3b067_41 : decode cJ2_getChar_3b067 41 = .ok (.iand, 1) := by decide +kernel
theorem dJ2_getChar_3b067_42 : decode cJ2_getChar_3b067 42 = .ok (.getstatic 59, 3) := by decide +kernel
theorem dJ2_getChar_3b067_45 : decode cJ2_getChar_3b067 45 = .ok (.ishl, 1) := by decide +kernel
theorem dJ2_getChar_3b067_46 : decode cJ2_getChar_3b067 46 = .ok (.aload_n 0, 1) := by decide +kernel
theorem dJ2_getChar_3b067_47 : decode cJ2_getChar_3b067 47 = .ok (.iload_n 1, 1) := by decide +kernel
theorem dJ2_getChar_3b067_48 : decode cJ2_getChar_3b067 48 = .ok (.baload, 1) := by decide +kernel
theorem dJ2_getChar_3b067_49 : decode cJ2_getChar_3b067 49 = .ok (.sipush 255, 3) := by decide +kernel
theorem dJ2_getChar_3b067_52 : decode cJ2_getChar_3b067 52 = .ok (.iand, 1) := by decide +kernel
theorem dJ2_getChar_3b067_53 : decode cJ2_getChar_3b067 53 = .ok (.getstatic 63, 3) := by decide +kernel
theorem dJ2_getChar_3b067_56 : decode cJ2_getChar_3b067 56 = .ok (.ishl, 1) := by decide +kernel
theorem dJ2_getChar_3b067_57 : decode cJ2_getChar_3b067 57 = .ok (.ior, 1) := by decide +kernel
theorem dJ2_getChar_3b067_58 : decode cJ2_getChar_3b067 58 = .ok (.i2c, 1) := by decide +kernel
theorem dJ2_getChar_3b067_59 : decode cJ2_getChar_3b067 59 = .ok (.ireturn, 1) := by decide +kernel
theorem dJ2_length_9d52b_0 : decode cJ2_length_9d52b 0 = .ok (.aload_n 0, 1) := by decide +kernel
theorem dJ2_length_9d52b_1 : decode cJ2_length_9d52b 1 = .ok (.arraylength, 1) := by decide +kernel
theorem dJ2_length_9d52b_2 : decode cJ2_length_9d52b 2 = .ok (.iconst 1, 1) := by decide +kernel
theorem dJ2_length_9d52b_3 : decode cJ2_length_9d52b 3 = .ok (.ishr, 1) := by decide +kernel
theorem dJ2_length_9d52b_4 : decode cJ2_length_9d52b 4 = .ok (.ireturn, 1) := by decide +kernel
theorem dJ2_charAt_3b067_0 : decode cJ2_charAt_3b067 0 = .ok (.iload_n 1, 1) := by decide +kernel
theorem dJ2_charAt_3b067_1 : decode cJ2_charAt_3b067 1 = .ok (.aload_n 0, 1) := by decide +kernel
theorem dJ2_charAt_3b067_2 : decode cJ2_charAt_3b067 2 = .ok (.invokestatic 67, 3) := by decide +kernel
theorem dJ2_charAt_3b067_5 : decode cJ2_charAt_3b067 5 = .ok (.aload_n 0, 1) := by decide +kernel
theorem dJ2_charAt_3b067_6 : decode cJ2_charAt_3b067 6 = .ok (.iload_n 1, 1) := by decide +kernel
theorem dJ2_charAt_3b067_7 : decode cJ2_charAt_3b067 7 = .ok (.invokestatic 71, 3) := by decide +kernel
theorem dJ2_charAt_3b067_10 : decode cJ2_charAt_3b067 10 = .ok (.ireturn, 1) := by decide +kernel
theorem dJ2_checkIndex_2214a_0 : decode cJ2_checkIndex_2214a 0 = .ok (.iload_n 0, 1) := by decide +kernel
theorem dJ2_checkIndex_2214a_1 : decode cJ2_checkIndex_2214a 1 = .ok (.aload_n 1, 1) := by decide +kernel
theorem dJ2_checkIndex_2214a_2 : decode cJ2_checkIndex_2214a 2 = .ok (.invokestatic 48, 3) := by decide +kernel
theorem dJ2_checkIndex_2214a_5 : decode cJ2_checkIndex_2214a 5 = .ok (.invokestatic 414, 3) := by decide +kernel
theorem dJ2_checkIndex_2214a_8 : decode cJ2_checkIndex_2214a 8 = .ok (.return_, 1) := by decide +kernel
theorem dJ3_checkIndex_8e157_0 : decode cJ3_checkIndex_8e157 0 = .ok (.iload_n 0, 1) := by decide +kernel
theorem dJ3_checkIndex_8e157_1 : decode cJ3_checkIndex_8e157 1 = .ok (.ifCond .lt 8, 3) := by decide +kernel
theorem dJ3_checkIndex_8e157_4 : decode cJ3_checkIndex_8e157 4 = .ok (.iload_n 0, 1) := by decide +kernel
theorem dJ3_checkIndex_8e157_5 : decode cJ3_checkIndex_8e157 5 = .ok (.iload_n 1, 1) := by decide +kernel
theorem dJ3_checkIndex_8e157_6 : decode cJ3_checkIndex_8e157 6 = .ok (.if_icmp .lt 10, 3) := by decide +kernel
theorem dJ3_checkIndex_8e157_9 : decode cJ3_checkIndex_8e157 9 = .ok (.aload_n 2, 1) := by decide +kernel
theorem dJ3_checkIndex_8e157_10 : decode cJ3_checkIndex_8e157 10 = .ok (.iload_n 0, 1) := by decide +kernel
theorem dJ3_checkIndex_8e157_11 : decode cJ3_checkIndex_8e157 11 = .ok (.iload_n 1, 1) := by decide +kernel
theorem dJ3_checkIndex_8e157_12 : decode cJ3_checkIndex_8e157 12 = .ok (.invokestatic 95, 3) := by decide +kernel
theorem dJ3_checkIndex_8e157_15 : decode cJ3_checkIndex_8e157 15 = .ok (.athrow, 1) := by decide +kernel
theorem dJ3_checkIndex_8e157_16 : decode cJ3_checkIndex_8e157 16 = .ok (.iload_n 0, 1) := by decide +kernel
theorem dJ3_checkIndex_8e157_17 : decode cJ3_checkIndex_8e157 17 = .ok (.ireturn, 1) := by decide +kernel
end
section
theorem dX6_init_0 : decode cX6_init 0 = .ok (.aload_n 0, 1) := by decide +kernel
theorem dX6_init_1 : decode cX6_init 1 = .ok (.invokespecial 1, 3) := by decide +kernel
theorem dX6_init_4 : decode cX6_init 4 = .ok (.aload_n 0, 1) := by decide +kernel
theorem dX6_init_5 : decode cX6_init 5 = .ok (.sipush 145, 3) := by decide +kernel
theorem dX6_init_8 : decode cX6_init 8 = .ok (.newarray .int, 2) := by decide +kernel
theorem dX6_init_10 : decode cX6_init 10 = .ok (.putfield 7, 3) := by decide +kernel
theorem dX6_init_13 : decode cX6_init 13 = .ok (.aload_n 0, 1) := by decide +kernel
theorem dX6_init_14 : decode cX6_init 14 = .ok (.sipush 1160, 3) := by decide +kernel
theorem dX6_init_17 : decode cX6_init 17 = .ok (.newarray .int, 2) := by decide +kernel
theorem dX6_init_19 : decode cX6_init 19 = .ok (.putfield 13, 3) := by decide +kernel
theorem dX6_init_22 : decode cX6_init 22 = .ok (.aload_n 0, 1) := by decide +kernel
theorem dX6_init_23 : decode cX6_init 23 = .ok (.iconst 3, 1) := by decide +kernel
theorem dX6_init_24 : decode cX6_init 24 = .ok (.newarray .int, 2) := by decide +kernel
theorem dX6_init_26 : decode cX6_init 26 = .ok (.dup, 1) := by decide +kernel
theorem dX6_init_27 : decode cX6_init 27 = .ok (.iconst 0, 1) := by decide +kernel
theorem dX6_init_28 : decode cX6_init 28 = .ok (.iconst 2, 1) := by decide +kernel
theorem dX6_init_29 : decode cX6_init 29 = .ok (.iastore, 1) := by decide +kernel
theorem dX6_init_30 : decode cX6_init 30 = .ok (.dup, 1) := by decide +kernel
theorem dX6_init_31 : decode cX6_init 31 = .ok (.iconst 1, 1) := by decide +kernel
theorem dX6_init_32 : decode cX6_init 32 = .ok (.bipush 12, 2) := by decide +kernel
theorem dX6_init_34 : decode cX6_init 34 = .ok (.iastore, 1) := by decide +kernel
theorem dX6_init_35 : decode cX6_init 35 = .ok (.dup, 1) := by decide +kernel
theorem dX6_init_36 : decode cX6_init 36 = .ok (.iconst 2, 1) := by decide +kernel
theorem dX6_init_37 : decode cX6_init 37 = .ok (.iconst 0, 1) := by decide +kernel
theorem dX6_init_38 : decode cX6_init 38 = .ok (.iastore, 1) := by decide +kernel
theorem dX6_init_39 : decode cX6_init 39 = .ok (.putfield 16, 3) := by decide +kernel
theorem dX6_init_42 : decode cX6_init 42 = .ok (.aload_n 0, 1) := by decide +kernel
theorem dX6_init_43 : decode cX6_init 43 = .ok (.iconst 3, 1) := by decide +kernel
theorem dX6_init_44 : decode cX6_init 44 = .ok (.newarray .int, 2) := by decide +kernel
theorem dX6_init_46 : decode cX6_init 46 = .ok (.putfield 19, 3) := by decide +kernel
theorem dX6_init_49 : decode cX6_init 49 = .ok (.aload_n 0, 1) := by decide +kernel
theorem dX6_init_50 : decode cX6_init 50 = .ok (.bipush 120, 2) := by decide +kernel
theorem dX6_init_52 : decode cX6_init 52 = .ok (.newarray .int, 2) := by decide +kernel
theorem dX6_init_54 : decode cX6_init 54 = .ok (.putfield 22, 3) := by decide +kernel
theorem dX6_init_57 : decode cX6_init 57 = .ok (.aload_n 0, 1) := by decide +kernel
theorem dX6_init_58 : decode cX6_init 58 = .ok (.iconst 4, 1) := by decide +kernel
theorem dX6_init_59 : decode cX6_init 59 = .ok (.newarray .int, 2) := by decide +kernel
theorem dX6_init_61 : decode cX6_init 61 = .ok (.putfield 25, 3) := by decide +kernel
theorem dX6_init_64 : decode cX6_init 64 = .ok (.aload_n 0, 1) := by decide +kernel
theorem dX6_init_65 : decode cX6_init 65 = .ok (.bipush 24, 2) := by decide +kernel
theorem dX6_init_67 : decode cX6_init 67 = .ok (.newarray .char, 2) := by decide +kernel
theorem dX6_init_69 : decode cX6_init 69 = .ok (.dup, 1) := by decide +kernel
theorem dX6_init_70 : decode cX6_init 70 = .ok (.iconst 0, 1) := by decide +kernel
theorem dX6_init_71 : decode cX6_init 71 = .ok (.bipush 111, 2) := by decide +kernel
theorem dX6_init_73 : decode cX6_init 73 = .ok (.castore, 1) := by decide +kernel
theorem dX6_init_74 : decode cX6_init 74 = .ok (.dup, 1) := by decide +kernel
theorem dX6_init_75 : decode cX6_init 75 = .ok (.iconst 1, 1) := by decide +kernel
theorem dX6_init_76 : decode cX6_init 76 = .ok (.bipush 110, 2) := by decide +kernel
theorem dX6_init_78 : decode cX6_init 78 = .ok (.castore, 1) := by decide +kernel
theorem dX6_init_79 : decode cX6_init 79 = .ok (.dup, 1) := by decide +kernel
theorem dX6_init_80 : decode cX6_init 80 = .ok (.iconst 2, 1) := by decide +kernel
theorem dX6_init_81 : decode cX6_init 81 = .ok (.bipush 32, 2) := by decide +kernel
theorem dX6_init_83 : decode cX6_init 83 = .ok (.castore, 1) := by decide +kernel
theorem dX6_init_84 : decode cX6_init 84 = .ok (.dup, 1) := by decide +kernel
theorem dX6_init_85 : decode cX6_init 85 = .ok (.iconst 3, 1) := by decide +kernel
theorem dX6_init_86 : decode cX6_init 86 = .ok (.bipush 111, 2) := by decide +kernel
theorem dX6_init_88 : decode cX6_init 88 = .ok (.castore, 1) := by decide +kernel
theorem dX6_init_89 : decode cX6_init 89 = .ok (.dup, 1) := by decide +kernel
theorem dX6_init_90 : decode cX6_init 90 = .ok (.iconst 4, 1) := by decide +kernel
theorem dX6_init_91 : decode cX6_init 91 = .ok (.bipush 102, 2) := by decide +kernel
theorem dX6_init_93 : decode cX6_init 93 = .ok (.castore, 1) := by decide +kernel
theorem dX6_init_94 : decode cX6_init 94 = .ok (.dup, 1) := by decide +kernel
theorem dX6_init_95 : decode cX6_init 95 = .ok (.iconst 5, 1) := by decide +kernel
theorem dX6_init_96 : decode cX6_init 96 = .ok (.bipush 102, 2) := by decide +kernel
theorem dX6_init_98 : decode cX6_init 98 = .ok (.castore, 1) := by decide +kernel
theorem dX6_init_99 : decode cX6_init 99 = .ok (.dup, 1) := by decide +kernel
theorem dX6_init_100 : decode cX6_init 100 = .ok (.bipush 6, 2) := by decide +kernel
theorem dX6_init_102 : decode cX6_init 102 = .ok (.bipush 32, 2) := by decide +kernel
theorem dX6_init_104 : decode cX6_init 104 = .ok (.castore, 1) := by decide +kernel
theorem dX6_init_105 : decode cX6_init 105 = .ok (.dup, 1) := by decide +kernel
theorem dX6_init_106 : decode cX6_init 106 = .ok (.bipush 7, 2) := by decide +kernel
theorem dX6_init_108 : decode cX6_init 108 = .ok (.bipush 112, 2) := by decide +kernel
theorem dX6_init_110 : decode cX6_init 110 = .ok (.castore, 1) := by decide +kernel
theorem dX6_init_111 : decode cX6_init 111 = .ok (.dup, 1) := by decide +kernel
theorem dX6_init_112 : decode cX6_init 112 = .ok (.bipush 8, 2) := by decide +kernel
theorem dX6_init_114 : decode cX6_init 114 = .ok (.bipush 117, 2) := by decide +kernel
theorem dX6_init_116 : decode cX6_init 116 = .ok (.castore, 1) := by decide +kernel
theorem dX6_init_117 : decode cX6_init 117 = .ok (.dup, 1) := by decide +kernel
theorem dX6_init_118 : decode cX6_init 118 = .ok (.bipush 9, 2) := by decide +kernel
theorem dX6_init_120 : decode cX6_init 120 = .ok (.bipush 116, 2) := by decide +kernel
theorem dX6_init_122 : decode cX6_init 122 = .ok (.castore, 1) := by decide +kernel
theorem dX6_init_123 : decode cX6_init 123 = .ok (.dup, 1) := by decide +kernel
theorem dX6_init_124 : decode cX6_init 124 = .ok (.bipush 10, 2) := by decide +kernel
theorem dX6_init_126 : decode cX6_init 126 = .ok (.bipush 32, 2) := by decide +kernel
theorem dX6_init_128 : decode cX6_init 128 = .ok (.castore, 1) := by decide +kernel
theorem dX6_init_129 : decode cX6_init 129 = .ok (.dup, 1) := by decide +kernel
theorem dX6_init_130 : decode cX6_init 130 = .ok (.bipush 11, 2) := by decide +kernel
theorem dX6_init_132 : decode cX6_init 132 = .ok (.bipush 110, 2) := by decide +kernel
theorem dX6_init_134 : decode cX6_init 134 = .ok (.castore, 1) := by decide +kernel
theorem dX6_init_135 : decode cX6_init 135 = .ok (.dup, 1) := by decide +kernel
theorem dX6_init_136 : decode cX6_init 136 = .ok (.bipush 12, 2) := by decide +kernel
theorem dX6_init_138 : decode cX6_init 138 = .ok (.bipush 97, 2) := by decide +kernel
theorem dX6_init_140 : decode cX6_init 140 = .ok (.castore, 1) := by decide +kernel
theorem dX6_init_141 : decode cX6_init 141 = .ok (.dup, 1) := by decide +kernel
theorem dX6_init_142 : decode cX6_init 142 = .ok (.bipush 13, 2) := by decide +kernel
theorem dX6_init_144 : decode cX6_init 144 = .ok (.bipush 109, 2) := by decide +kernel
theorem dX6_init_146 : decode cX6_init 146 = .ok (.castore, 1) := by decide +kernel
theorem dX6_init_147 : decode cX6_init 147 = .ok (.dup, 1) := by decide +kernel
theorem dX6_init_148 : decode cX6_init 148 = .ok (.bipush 14, 2) := by decide +kernel
theorem dX6_init_150 : decode cX6_init 150 = .ok (.bipush 101, 2) := by decide +kernel
theorem dX6_init_152 : decode cX6_init 152 = .ok (.castore, 1) := by decide +kernel
theorem dX6_init_153 : decode cX6_init 153 = .ok (.dup, 1) := by decide +kernel
theorem dX6_init_154 : decode cX6_init 154 = .ok (.bipush 15, 2) := by decide +kernel
theorem dX6_init_156 : decode cX6_init 156 = .ok (.bipush 115, 2) := by decide +kernel
theorem dX6_init_158 : decode cX6_init 158 = .ok (.castore, 1) := by decide +kernel
theorem dX6_init_159 : decode cX6_init 159 = .ok (.dup, 1) := by decide +kernel
theorem dX6_init_160 : decode cX6_init 160 = .ok (.bipush 16, 2) := by decide +kernel
theorem dX6_init_162 : decode cX6_init 162 = .ok (.bipush 32, 2) := by decide +kernel
theorem dX6_init_164 : decode cX6_init 164 = .ok (.castore, 1) := by decide +kernel
theorem dX6_init_165 : decode cX6_init 165 = .ok (.dup, 1) := by decide +kernel
theorem dX6_init_166 : decode cX6_init 166 = .ok (.bipush 17, 2) := by decide +kernel
theorem dX6_init_168 : decode cX6_init 168 = .ok (.bipush 118, 2) := by decide +kernel
theorem dX6_init_170 : decode cX6_init 170 = .ok (.castore, 1) := by decide +kernel
theorem dX6_init_171 : decode cX6_init 171 = .ok (.dup, 1) := by decide +kernel
theorem dX6_init_172 : decode cX6_init 172 = .ok (.bipush 18, 2) := by decide +kernel
theorem dX6_init_174 : decode cX6_init 174 = .ok (.bipush 111, 2) := by decide +kernel
theorem dX6_init_176 : decode cX6_init 176 = .ok (.castore, 1) := by decide +kernel
theorem dX6_init_177 : decode cX6_init 177 = .ok (.dup, 1) := by decide +kernel
theorem dX6_init_178 : decode cX6_init 178 = .ok (.bipush 19, 2) := by decide +kernel
theorem dX6_init_180 : decode cX6_init 180 = .ok (.bipush 116, 2) := by decide +kernel
theorem dX6_init_182 : decode cX6_init 182 = .ok (.castore, 1) := by decide +kernel
theorem dX6_init_183 : decode cX6_init 183 = .ok (.dup, 1) := by decide +kernel
theorem dX6_init_184 : decode cX6_init 184 = .ok (.bipush 20, 2) := by decide +kernel
theorem dX6_init_186 : decode cX6_init 186 = .ok (.bipush 101, 2) := by decide +kernel
theorem dX6_init_188 : decode cX6_init 188 = .ok (.castore, 1) := by decide +kernel
theorem dX6_init_189 : decode cX6_init 189 = .ok (.dup, 1) := by decide +kernel
theorem dX6_init_190 : decode cX6_init 190 = .ok (.bipush 21, 2) := by decide +kernel
theorem dX6_init_192 : decode cX6_init 192 = .ok (.bipush 114, 2) := by decide +kernel
theorem dX6_init_194 : decode cX6_init 194 = .ok (.castore, 1) := by decide +kernel
theorem dX6_init_195 : decode cX6_init 195 = .ok (.dup, 1) := by decide +kernel
theorem dX6_init_196 : decode cX6_init 196 = .ok (.bipush 22, 2) := by decide +kernel
theorem dX6_init_198 : decode cX6_init 198 = .ok (.bipush 115, 2) := by decide +kernel
theorem dX6_init_200 : decode cX6_init 200 = .ok (.castore, 1) := by decide +kernel
theorem dX6_init_201 : decode cX6_init 201 = .ok (.dup, 1) := by decide +kernel
theorem dX6_init_202 : decode cX6_init 202 = .ok (.bipush 23, 2) := by decide +kernel
theorem dX6_init_204 : decode cX6_init 204 = .ok (.bipush 32, 2) := by decide +kernel
theorem dX6_init_206 : decode cX6_init 206 = .ok (.castore, 1) := by decide +kernel
theorem dX6_init_207 : decode cX6_init 207 = .ok (.putfield 28, 3) := by decide +kernel
theorem dX6_init_210 : decode cX6_init 210 = .ok (.aload_n 0, 1) := by decide +kernel
theorem dX6_init_211 : decode cX6_init 211 = .ok (.bipush 24, 2) := by decide +kernel
theorem dX6_init_213 : decode cX6_init 213 = .ok (.newarray .int, 2) := by decide +kernel
theorem dX6_init_215 : decode cX6_init 215 = .ok (.putfield 32, 3) := by decide +kernel
theorem dX6_init_218 : decode cX6_init 218 = .ok (.aload_n 0, 1) := by decide +kernel
theorem dX6_init_219 : decode cX6_init 219 = .ok (.bipush 24, 2) := by decide +kernel
theorem dX6_init_221 : decode cX6_init 221 = .ok (.newarray .int, 2) := by decide +kernel
theorem dX6_init_223 : decode cX6_init 223 = .ok (.putfield 35, 3) := by decide +kernel
theorem dX6_init_226 : decode cX6_init 226 = .ok (.aload_n 0, 1) := by decide +kernel
theorem dX6_init_227 : decode cX6_init 227 = .ok (.bipush 24, 2) := by decide +kernel
theorem dX6_init_229 : decode cX6_init 229 = .ok (.newarray .int, 2) := by decide +kernel
theorem dX6_init_231 : decode cX6_init 231 = .ok (.putfield 38, 3) := by decide +kernel
theorem dX6_init_234 : decode cX6_init 234 = .ok (.aload_n 0, 1) := by decide +kernel
theorem dX6_init_235 : decode cX6_init 235 = .ok (.bipush 24, 2) := by decide +kernel
theorem dX6_init_237 : decode cX6_init 237 = .ok (.newarray .int, 2) := by decide +kernel
theorem dX6_init_239 : decode cX6_init 239 = .ok (.putfield 41, 3) := by decide +kernel
theorem dX6_init_242 : decode cX6_init 242 = .ok (.aload_n 0, 1) := by decide +kernel
theorem dX6_init_243 : decode cX6_init 243 = .ok (.iconst 4, 1) := by decide +kernel
theorem dX6_init_244 : decode cX6_init 244 = .ok (.newarray .int, 2) := by decide +kernel
theorem dX6_init_246 : decode cX6_init 246 = .ok (.putfield 44, 3) := by decide +kernel
theorem dX6_init_249 : decode cX6_init 249 = .ok (.aload_n 0, 1) := by decide +kernel
theorem dX6_init_250 : decode cX6_init 250 = .ok (.iconst 4, 1) := by decide +kernel
theorem dX6_init_251 : decode cX6_init 251 = .ok (.newarray .int, 2) := by decide +kernel
theorem dX6_init_253 : decode cX6_init 253 = .ok (.putfield 47, 3) := by decide +kernel
theorem dX6_init_256 : decode cX6_init 256 = .ok (.aload_n 0, 1) := by decide +kernel
theorem dX6_init_257 : decode cX6_init 257 = .ok (.bipush 12, 2) := by decide +kernel
theorem dX6_init_259 : decode cX6_init 259 = .ok (.newarray .int, 2) := by decide +kernel
theorem dX6_init_261 : decode cX6_init 261 = .ok (.putfield 50, 3) := by decide +kernel
theorem dX6_init_264 : decode cX6_init 264 = .ok (.iconst 0, 1) := by decide +kernel
theorem dX6_init_265 : decode cX6_init 265 = .ok (.istore_n 1, 1) := by decide +kernel
theorem dX6_init_266 : decode cX6_init 266 = .ok (.iload_n 1, 1) := by decide +kernel
theorem dX6_init_267 : decode cX6_init 267 = .ok (.bipush 24, 2) := by decide +kernel
theorem dX6_init_269 : decode cX6_init 269 = .ok (.if_icmp .ge 16, 3) := by decide +kernel
theorem dX6_init_272 : decode cX6_init 272 = .ok (.aload_n 0, 1) := by decide +kernel
theorem dX6_init_273 : decode cX6_init 273 = .ok (.getfield 7, 3) := by decide +kernel
theorem dX6_init_276 : decode cX6_init 276 = .ok (.iload_n 1, 1) := by decide +kernel
theorem dX6_init_277 : decode cX6_init 277 = .ok (.iconst 1, 1) := by decide +kernel
theorem dX6_init_278 : decode cX6_init 278 = .ok (.iastore, 1) := by decide +kernel
theorem dX6_init_279 : decode cX6_init 279 = .ok (.iinc 1 1, 3) := by decide +kernel
theorem dX6_init_282 : decode cX6_init 282 = .ok (.goto (-16), 3) := by decide +kernel
theorem dX6_init_285 : decode cX6_init 285 = .ok (.bipush 120, 2) := by decide +kernel
theorem dX6_init_287 : decode cX6_init 287 = .ok (.istore_n 1, 1) := by decide +kernel
theorem dX6_init_288 : decode cX6_init 288 = .ok (.iload_n 1, 1) := by decide +kernel
theorem dX6_init_289 : decode cX6_init 289 = .ok (.sipush 144, 3) := by decide +kernel
theorem dX6_init_292 : decode cX6_init 292 = .ok (.if_icmp .ge 16, 3) := by decide +kernel
theorem dX6_init_295 : decode cX6_init 295 = .ok (.aload_n 0, 1) := by decide +kernel
theorem dX6_init_296 : decode cX6_init 296 = .ok (.getfield 7, 3) := by decide +kernel
theorem dX6_init_299 : decode cX6_init 299 = .ok (.iload_n 1, 1) := by decide +kernel
theorem dX6_init_300 : decode cX6_init 300 = .ok (.iconst 2, 1) := by decide +kernel
theorem dX6_init_301 : decode cX6_init 301 = .ok (.iastore, 1) := by decide +kernel
theorem dX6_init_302 : decode cX6_init 302 = .ok (.iinc 1 1, 3) := by decide +kernel
theorem dX6_init_305 : decode cX6_init 305 = .ok (.goto (-17), 3) := by decide +kernel
theorem dX6_init_308 : decode cX6_init 308 = .ok (.aload_n 0, 1) := by decide +kernel
theorem dX6_init_309 : decode cX6_init 309 = .ok (.getfield 7, 3) := by decide +kernel
theorem dX6_init_312 : decode cX6_init 312 = .ok (.sipush 144, 3) := by decide +kernel
theorem dX6_init_315 : decode cX6_init 315 = .ok (.iconst 1, 1) := by decide +kernel
theorem dX6_init_316 : decode cX6_init 316 = .ok (.iastore, 1) := by decide +kernel
theorem dX6_init_317 : decode cX6_init 317 = .ok (.return_, 1) := by decide +kernel
theorem dX6_in_0 : decode cX6_in 0 = .ok (.iload_n 0, 1) := by decide +kernel
theorem dX6_in_1 : decode cX6_in 1 = .ok (.iload_n 1, 1) := by decide +kernel
theorem dX6_in_2 : decode cX6_in 2 = .ok (.if_icmp .lt 12, 3) := by decide +kernel
theorem dX6_in_5 : decode cX6_in 5 = .ok (.iload_n 0, 1) := by decide +kernel
theorem dX6_in_6 : decode cX6_in 6 = .ok (.iload_n 2, 1) := by decide +kernel
theorem dX6_in_7 : decode cX6_in 7 = .ok (.if_icmp .gt 7, 3) := by decide +kernel
theorem dX6_in_10 : decode cX6_in 10 = .ok (.iconst 1, 1) := by decide +kernel
theorem dX6_in_11 : decode cX6_in 11 = .ok (.goto 4, 3) := by decide +kernel
theorem dX6_in_14 : decode cX6_in 14 = .ok (.iconst 0, 1) := by decide +kernel
theorem dX6_in_15 : decode cX6_in 15 = .ok (.ireturn, 1) := by decide +kernel
theorem dX6_refuses_0 : decode cX6_refuses 0 = .ok (.aload_n 0, 1) := by decide +kernel
theorem dX6_refuses_1 : decode cX6_refuses 1 = .ok (.getfield 19, 3) := by decide +kernel
theorem dX6_refuses_4 : decode cX6_refuses 4 = .ok (.bipush (-2), 2) := by decide +kernel
theorem dX6_refuses_6 : decode cX6_refuses 6 = .ok (.iload_n 1, 1) := by decide +kernel
theorem dX6_refuses_7 : decode cX6_refuses 7 = .ok (.isub, 1) := by decide +kernel
theorem dX6_refuses_8 : decode cX6_refuses 8 = .ok (.dup2, 1) := by decide +kernel
theorem dX6_refuses_9 : decode cX6_refuses 9 = .ok (.iaload, 1) := by decide +kernel
theorem dX6_refuses_10 : decode cX6_refuses 10 = .ok (.iconst 1, 1) := by decide +kernel
theorem dX6_refuses_11 : decode cX6_refuses 11 = .ok (.iadd, 1) := by decide +kernel
theorem dX6_refuses_12 : decode cX6_refuses 12 = .ok (.iastore, 1) := by decide +kernel
theorem dX6_refuses_13 : decode cX6_refuses 13 = .ok (.iload_n 1, 1) := by decide +kernel
theorem dX6_refuses_14 : decode cX6_refuses 14 = .ok (.ireturn, 1) := by decide +kernel
theorem dX6_isBlock_0 : decode cX6_isBlock 0 = .ok (.iload_n 0, 1) := by decide +kernel
theorem dX6_isBlock_1 : decode cX6_isBlock 1 = .ok (.iconst 0, 1) := by decide +kernel
theorem dX6_isBlock_2 : decode cX6_isBlock 2 = .ok (.bipush 23, 2) := by decide +kernel
theorem dX6_isBlock_4 : decode cX6_isBlock 4 = .ok (.invokestatic 53, 3) := by decide +kernel
theorem dX6_isBlock_7 : decode cX6_isBlock 7 = .ok (.ireturn, 1) := by decide +kernel
theorem dX6_isLayer_0 : decode cX6_isLayer 0 = .ok (.iload_n 0, 1) := by decide +kernel
theorem dX6_isLayer_1 : decode cX6_isLayer 1 = .ok (.iconst 0, 1) := by decide +kernel
theorem dX6_isLayer_2 : decode cX6_isLayer 2 = .ok (.iconst 3, 1) := by decide +kernel
theorem dX6_isLayer_3 : decode cX6_isLayer 3 = .ok (.invokestatic 53, 3) := by decide +kernel
theorem dX6_isLayer_6 : decode cX6_isLayer 6 = .ok (.ireturn, 1) := by decide +kernel
theorem dX6_isDistrict_0 : decode cX6_isDistrict 0 = .ok (.iload_n 0, 1) := by decide +kernel
theorem dX6_isDistrict_1 : decode cX6_isDistrict 1 = .ok (.iconst 0, 1) := by decide +kernel
theorem dX6_isDistrict_2 : decode cX6_isDistrict 2 = .ok (.iconst 5, 1) := by decide +kernel
theorem dX6_isDistrict_3 : decode cX6_isDistrict 3 = .ok (.invokestatic 53, 3) := by decide +kernel
theorem dX6_isDistrict_6 : decode cX6_isDistrict 6 = .ok (.ireturn, 1) := by decide +kernel
theorem dX6_district_0 : decode cX6_district 0 = .ok (.aload_n 0, 1) := by decide +kernel
theorem dX6_district_1 : decode cX6_district 1 = .ok (.getfield 7, 3) := by decide +kernel
theorem dX6_district_4 : decode cX6_district 4 = .ok (.bipush 24, 2) := by decide +kernel
theorem dX6_district_6 : decode cX6_district 6 = .ok (.bipush 24, 2) := by decide +kernel
theorem dX6_district_8 : decode cX6_district 8 = .ok (.iload_n 1, 1) := by decide +kernel
theorem dX6_district_9 : decode cX6_district 9 = .ok (.imul, 1) := by decide +kernel
theorem dX6_district_10 : decode cX6_district 10 = .ok (.iadd, 1) := by decide +kernel
theorem dX6_district_11 : decode cX6_district 11 = .ok (.iload_n 2, 1) := by decide +kernel
theorem dX6_district_12 : decode cX6_district 12 = .ok (.iadd, 1) := by decide +kernel
theorem dX6_district_13 : decode cX6_district 13 = .ok (.iaload, 1) := by decide +kernel
theorem dX6_district_14 : decode cX6_district 14 = .ok (.ireturn, 1) := by decide +kernel
theorem dX6_namesOf_0 : decode cX6_namesOf 0 = .ok (.aload_n 0, 1) := by decide +kernel
theorem dX6_namesOf_1 : decode cX6_namesOf 1 = .ok (.getfield 7, 3) := by decide +kernel
theorem dX6_namesOf_4 : decode cX6_namesOf 4 = .ok (.bipush 120, 2) := by decide +kernel
theorem dX6_namesOf_6 : decode cX6_namesOf 6 = .ok (.bipush 6, 2) := by decide +kernel
theorem dX6_namesOf_8 : decode cX6_namesOf 8 = .ok (.iload_n 1, 1) := by decide +kernel
theorem dX6_namesOf_9 : decode cX6_namesOf 9 = .ok (.imul, 1) := by decide +kernel
theorem dX6_namesOf_10 : decode cX6_namesOf 10 = .ok (.iadd, 1) := by decide +kernel
theorem dX6_namesOf_11 : decode cX6_namesOf 11 = .ok (.iload_n 2, 1) := by decide +kernel
theorem dX6_namesOf_12 : decode cX6_namesOf 12 = .ok (.iadd, 1) := by decide +kernel
theorem dX6_namesOf_13 : decode cX6_namesOf 13 = .ok (.iaload, 1) := by decide +kernel
theorem dX6_namesOf_14 : decode cX6_namesOf 14 = .ok (.ireturn, 1) := by decide +kernel
theorem dX6_isOn_0 : decode cX6_isOn 0 = .ok (.aload_n 0, 1) := by decide +kernel
theorem dX6_isOn_1 : decode cX6_isOn 1 = .ok (.getfield 7, 3) := by decide +kernel
theorem dX6_isOn_4 : decode cX6_isOn 4 = .ok (.sipush 144, 3) := by decide +kernel
theorem dX6_isOn_7 : decode cX6_isOn 7 = .ok (.iaload, 1) := by decide +kernel
theorem dX6_isOn_8 : decode cX6_isOn 8 = .ok (.iload_n 1, 1) := by decide +kernel
theorem dX6_isOn_9 : decode cX6_isOn 9 = .ok (.ishr, 1) := by decide +kernel
theorem dX6_isOn_10 : decode cX6_isOn 10 = .ok (.iconst 1, 1) := by decide +kernel
theorem dX6_isOn_11 : decode cX6_isOn 11 = .ok (.iand, 1) := by decide +kernel
theorem dX6_isOn_12 : decode cX6_isOn 12 = .ok (.iconst 1, 1) := by decide +kernel
theorem dX6_isOn_13 : decode cX6_isOn 13 = .ok (.if_icmp .ne 7, 3) := by decide +kernel
theorem dX6_isOn_16 : decode cX6_isOn 16 = .ok (.iconst 1, 1) := by decide +kernel
theorem dX6_isOn_17 : decode cX6_isOn 17 = .ok (.goto 4, 3) := by decide +kernel
theorem dX6_isOn_20 : decode cX6_isOn 20 = .ok (.iconst 0, 1) := by decide +kernel
theorem dX6_isOn_21 : decode cX6_isOn 21 = .ok (.ireturn, 1) := by decide +kernel
theorem dX6_keeps_0 : decode cX6_keeps 0 = .ok (.aload_n 0, 1) := by decide +kernel
theorem dX6_keeps_1 : decode cX6_keeps 1 = .ok (.getfield 57, 3) := by decide +kernel
theorem dX6_keeps_4 : decode cX6_keeps 4 = .ok (.bipush 8, 2) := by decide +kernel
theorem dX6_keeps_6 : decode cX6_keeps 6 = .ok (.if_icmp .ne 44, 3) := by decide +kernel
theorem dX6_keeps_9 : decode cX6_keeps 9 = .ok (.iconst 0, 1) := by decide +kernel
theorem dX6_keeps_10 : decode cX6_keeps 10 = .ok (.istore_n 1, 1) := by decide +kernel
theorem dX6_keeps_11 : decode cX6_keeps 11 = .ok (.iload_n 1, 1) := by decide +kernel
theorem dX6_keeps_12 : decode cX6_keeps 12 = .ok (.sipush 1015, 3) := by decide +kernel
theorem dX6_keeps_15 : decode cX6_keeps 15 = .ok (.if_icmp .ge 25, 3) := by decide +kernel
theorem dX6_keeps_18 : decode cX6_keeps 18 = .ok (.aload_n 0, 1) := by decide +kernel
theorem dX6_keeps_19 : decode cX6_keeps 19 = .ok (.getfield 13, 3) := by decide +kernel
theorem dX6_keeps_22 : decode cX6_keeps 22 = .ok (.iload_n 1, 1) := by decide +kernel
theorem dX6_keeps_23 : decode cX6_keeps 23 = .ok (.aload_n 0, 1) := by decide +kernel
theorem dX6_keeps_24 : decode cX6_keeps 24 = .ok (.getfield 13, 3) := by decide +kernel
theorem dX6_keeps_27 : decode cX6_keeps 27 = .ok (.iload_n 1, 1) := by decide +kernel
theorem dX6_keeps_28 : decode cX6_keeps 28 = .ok (.sipush 145, 3) := by decide +kernel
theorem dX6_keeps_31 : decode cX6_keeps 31 = .ok (.iadd, 1) := by decide +kernel
theorem dX6_keeps_32 : decode cX6_keeps 32 = .ok (.iaload, 1) := by decide +kernel
theorem dX6_keeps_33 : decode cX6_keeps 33 = .ok (.iastore, 1) := by decide +kernel
theorem dX6_keeps_34 : decode cX6_keeps 34 = .ok (.iinc 1 1, 3) := by decide +kernel
theorem dX6_keeps_37 : decode cX6_keeps 37 = .ok (.goto (-26), 3) := by decide +kernel
theorem dX6_keeps_40 : decode cX6_keeps 40 = .ok (.aload_n 0, 1) := by decide +kernel
theorem dX6_keeps_41 : decode cX6_keeps 41 = .ok (.dup, 1) := by decide +kernel
theorem dX6_keeps_42 : decode cX6_keeps 42 = .ok (.getfield 57, 3) := by decide +kernel
theorem dX6_keeps_45 : decode cX6_keeps 45 = .ok (.iconst 1, 1) := by decide +kernel
theorem dX6_keeps_46 : decode cX6_keeps 46 = .ok (.isub, 1) := by decide +kernel
theorem dX6_keeps_47 : decode cX6_keeps 47 = .ok (.putfield 57, 3) := by decide +kernel
theorem dX6_keeps_50 : decode cX6_keeps 50 = .ok (.iconst 0, 1) := by decide +kernel
theorem dX6_keeps_51 : decode cX6_keeps 51 = .ok (.istore_n 1, 1) := by decide +kernel
theorem dX6_keeps_52 : decode cX6_keeps 52 = .ok (.iload_n 1, 1) := by decide +kernel
theorem dX6_keeps_53 : decode cX6_keeps 53 = .ok (.sipush 145, 3) := by decide +kernel
theorem dX6_keeps_56 : decode cX6_keeps 56 = .ok (.if_icmp .ge 30, 3) := by decide +kernel
theorem dX6_keeps_59 : decode cX6_keeps 59 = .ok (.aload_n 0, 1) := by decide +kernel
theorem dX6_keeps_60 : decode cX6_keeps 60 = .ok (.getfield 13, 3) := by decide +kernel
theorem dX6_keeps_63 : decode cX6_keeps 63 = .ok (.sipush 145, 3) := by decide +kernel
theorem dX6_keeps_66 : decode cX6_keeps 66 = .ok (.aload_n 0, 1) := by decide +kernel
theorem dX6_keeps_67 : decode cX6_keeps 67 = .ok (.getfield 57, 3) := by decide +kernel
theorem dX6_keeps_70 : decode cX6_keeps 70 = .ok (.imul, 1) := by decide +kernel
theorem dX6_keeps_71 : decode cX6_keeps 71 = .ok (.iload_n 1, 1) := by decide +kernel
theorem dX6_keeps_72 : decode cX6_keeps 72 = .ok (.iadd, 1) := by decide +kernel
theorem dX6_keeps_73 : decode cX6_keeps 73 = .ok (.aload_n 0, 1) := by decide +kernel
theorem dX6_keeps_74 : decode cX6_keeps 74 = .ok (.getfield 7, 3) := by decide +kernel
theorem dX6_keeps_77 : decode cX6_keeps 77 = .ok (.iload_n 1, 1) := by decide +kernel
theorem dX6_keeps_78 : decode cX6_keeps 78 = .ok (.iaload, 1) := by decide +kernel
theorem dX6_keeps_79 : decode cX6_keeps 79 = .ok (.iastore, 1) := by decide +kernel
theorem dX6_keeps_80 : decode cX6_keeps 80 = .ok (.iinc 1 1, 3) := by decide +kernel
theorem dX6_keeps_83 : decode cX6_keeps 83 = .ok (.goto (-31), 3) := by decide +kernel
theorem dX6_keeps_86 : decode cX6_keeps 86 = .ok (.aload_n 0, 1) := by decide +kernel
theorem dX6_keeps_87 : decode cX6_keeps 87 = .ok (.dup, 1) := by decide +kernel
theorem dX6_keeps_88 : decode cX6_keeps 88 = .ok (.getfield 57, 3) := by decide +kernel
theorem dX6_keeps_91 : decode cX6_keeps 91 = .ok (.iconst 1, 1) := by decide +kernel
theorem dX6_keeps_92 : decode cX6_keeps 92 = .ok (.iadd, 1) := by decide +kernel
theorem dX6_keeps_93 : decode cX6_keeps 93 = .ok (.putfield 57, 3) := by decide +kernel
theorem dX6_keeps_96 : decode cX6_keeps 96 = .ok (.return_, 1) := by decide +kernel
theorem dX6_turns_0 : decode cX6_turns 0 = .ok (.aload_n 0, 1) := by decide +kernel
theorem dX6_turns_1 : decode cX6_turns 1 = .ok (.iload_n 1, 1) := by decide +kernel
theorem dX6_turns_2 : decode cX6_turns 2 = .ok (.invokevirtual 61, 3) := by decide +kernel
theorem dX6_turns_5 : decode cX6_turns 5 = .ok (.ifCond .eq 7, 3) := by decide +kernel
theorem dX6_turns_8 : decode cX6_turns 8 = .ok (.iconst 1, 1) := by decide +kernel
theorem dX6_turns_9 : decode cX6_turns 9 = .ok (.goto 4, 3) := by decide +kernel
theorem dX6_turns_12 : decode cX6_turns 12 = .ok (.iconst 0, 1) := by decide +kernel
theorem dX6_turns_13 : decode cX6_turns 13 = .ok (.istore_n 3, 1) := by decide +kernel
theorem dX6_turns_14 : decode cX6_turns 14 = .ok (.aload_n 0, 1) := by decide +kernel
theorem dX6_turns_15 : decode cX6_turns 15 = .ok (.getfield 7, 3) := by decide +kernel
theorem dX6_turns_18 : decode cX6_turns 18 = .ok (.sipush 144, 3) := by decide +kernel
theorem dX6_turns_21 : decode cX6_turns 21 = .ok (.aload_n 0, 1) := by decide +kernel
theorem dX6_turns_22 : decode cX6_turns 22 = .ok (.getfield 7, 3) := by decide +kernel
theorem dX6_turns_25 : decode cX6_turns 25 = .ok (.sipush 144, 3) := by decide +kernel
theorem dX6_turns_28 : decode cX6_turns 28 = .ok (.iaload, 1) := by decide +kernel
theorem dX6_turns_29 : decode cX6_turns 29 = .ok (.iconst 1, 1) := by decide +kernel
theorem dX6_turns_30 : decode cX6_turns 30 = .ok (.iload_n 1, 1) := by decide +kernel
theorem dX6_turns_31 : decode cX6_turns 31 = .ok (.ishl, 1) := by decide +kernel
theorem dX6_turns_32 : decode cX6_turns 32 = .ok (.iconst (-1), 1) := by decide +kernel
theorem dX6_turns_33 : decode cX6_turns 33 = .ok (.ixor, 1) := by decide +kernel
theorem dX6_turns_34 : decode cX6_turns 34 = .ok (.iand, 1) := by decide +kernel
theorem dX6_turns_35 : decode cX6_turns 35 = .ok (.iload_n 2, 1) := by decide +kernel
theorem dX6_turns_36 : decode cX6_turns 36 = .ok (.iload_n 1, 1) := by decide +kernel
theorem dX6_turns_37 : decode cX6_turns 37 = .ok (.ishl, 1) := by decide +kernel
theorem dX6_turns_38 : decode cX6_turns 38 = .ok (.ior, 1) := by decide +kernel
theorem dX6_turns_39 : decode cX6_turns 39 = .ok (.iastore, 1) := by decide +kernel
theorem dX6_turns_40 : decode cX6_turns 40 = .ok (.iload_n 3, 1) := by decide +kernel
theorem dX6_turns_41 : decode cX6_turns 41 = .ok (.iload_n 2, 1) := by decide +kernel
theorem dX6_turns_42 : decode cX6_turns 42 = .ok (.if_icmp .ne 7, 3) := by decide +kernel
theorem dX6_turns_45 : decode cX6_turns 45 = .ok (.iconst 0, 1) := by decide +kernel
theorem dX6_turns_46 : decode cX6_turns 46 = .ok (.goto 4, 3) := by decide +kernel
theorem dX6_turns_49 : decode cX6_turns 49 = .ok (.iconst 1, 1) := by decide +kernel
theorem dX6_turns_50 : decode cX6_turns 50 = .ok (.ireturn, 1) := by decide +kernel
theorem dX6_on_0 : decode cX6_on 0 = .ok (.iload_n 1, 1) := by decide +kernel
theorem dX6_on_1 : decode cX6_on 1 = .ok (.invokestatic 65, 3) := by decide +kernel
theorem dX6_on_4 : decode cX6_on 4 = .ok (.ifCond .eq 12, 3) := by decide +kernel
theorem dX6_on_7 : decode cX6_on 7 = .ok (.iload_n 2, 1) := by decide +kernel
theorem dX6_on_8 : decode cX6_on 8 = .ok (.iconst 0, 1) := by decide +kernel
theorem dX6_on_9 : decode cX6_on 9 = .ok (.iconst 1, 1) := by decide +kernel
theorem dX6_on_10 : decode cX6_on 10 = .ok (.invokestatic 53, 3) := by decide +kernel
theorem dX6_on_13 : decode cX6_on 13 = .ok (.ifCond .ne 10, 3) := by decide +kernel
theorem dX6_on_16 : decode cX6_on 16 = .ok (.aload_n 0, 1) := by decide +kernel
theorem dX6_on_17 : decode cX6_on 17 = .ok (.bipush (-2), 2) := by decide +kernel
theorem dX6_on_19 : decode cX6_on 19 = .ok (.invokevirtual 68, 3) := by decide +kernel
theorem dX6_on_22 : decode cX6_on 22 = .ok (.ireturn, 1) := by decide +kernel
theorem dX6_on_23 : decode cX6_on 23 = .ok (.aload_n 0, 1) := by decide +kernel
theorem dX6_on_24 : decode cX6_on 24 = .ok (.invokevirtual 72, 3) := by decide +kernel
theorem dX6_on_27 : decode cX6_on 27 = .ok (.aload_n 0, 1) := by decide +kernel
theorem dX6_on_28 : decode cX6_on 28 = .ok (.iload_n 1, 1) := by decide +kernel
theorem dX6_on_29 : decode cX6_on 29 = .ok (.iload_n 2, 1) := by decide +kernel
theorem dX6_on_30 : decode cX6_on 30 = .ok (.invokevirtual 75, 3) := by decide +kernel
theorem dX6_on_33 : decode cX6_on 33 = .ok (.ireturn, 1) := by decide +kernel
theorem dX6_isRectangle_0 : decode cX6_isRectangle 0 = .ok (.iload_n 0, 1) := by decide +kernel
theorem dX6_isRectangle_1 : decode cX6_isRectangle 1 = .ok (.iconst 4, 1) := by decide +kernel
theorem dX6_isRectangle_2 : decode cX6_isRectangle 2 = .ok (.idiv, 1) := by decide +kernel
theorem dX6_isRectangle_3 : decode cX6_isRectangle 3 = .ok (.iload_n 1, 1) := by decide +kernel
theorem dX6_isRectangle_4 : decode cX6_isRectangle 4 = .ok (.iconst 4, 1) := by decide +kernel
theorem dX6_isRectangle_5 : decode cX6_isRectangle 5 = .ok (.idiv, 1) := by decide +kernel
theorem dX6_isRectangle_6 : decode cX6_isRectangle 6 = .ok (.if_icmp .gt 16, 3) := by decide +kernel
theorem dX6_isRectangle_9 : decode cX6_isRectangle 9 = .ok (.iload_n 0, 1) := by decide +kernel
theorem dX6_isRectangle_10 : decode cX6_isRectangle 10 = .ok (.iconst 4, 1) := by decide +kernel
theorem dX6_isRectangle_11 : decode cX6_isRectangle 11 = .ok (.irem, 1) := by decide +kernel
theorem dX6_isRectangle_12 : decode cX6_isRectangle 12 = .ok (.iload_n 1, 1) := by decide +kernel
theorem dX6_isRectangle_13 : decode cX6_isRectangle 13 = .ok (.iconst 4, 1) := by decide +kernel
theorem dX6_isRectangle_14 : decode cX6_isRectangle 14 = .ok (.irem, 1) := by decide +kernel
theorem dX6_isRectangle_15 : decode cX6_isRectangle 15 = .ok (.if_icmp .gt 7, 3) := by decide +kernel
theorem dX6_isRectangle_18 : decode cX6_isRectangle 18 = .ok (.iconst 1, 1) := by decide +kernel
theorem dX6_isRectangle_19 : decode cX6_isRectangle 19 = .ok (.goto 4, 3) := by decide +kernel
theorem dX6_isRectangle_22 : decode cX6_isRectangle 22 = .ok (.iconst 0, 1) := by decide +kernel
theorem dX6_isRectangle_23 : decode cX6_isRectangle 23 = .ok (.ireturn, 1) := by decide +kernel
theorem dX6_lays_0 : decode cX6_lays 0 = .ok (.iconst 0, 1) := by decide +kernel
theorem dX6_lays_1 : decode cX6_lays 1 = .ok (.istore 5, 2) := by decide +kernel
theorem dX6_lays_3 : decode cX6_lays 3 = .ok (.iconst 0, 1) := by decide +kernel
theorem dX6_lays_4 : decode cX6_lays 4 = .ok (.istore 6, 2) := by decide +kernel
theorem dX6_lays_6 : decode cX6_lays 6 = .ok (.iload 6, 2) := by decide +kernel
theorem dX6_lays_8 : decode cX6_lays 8 = .ok (.bipush 24, 2) := by decide +kernel
theorem dX6_lays_10 : decode cX6_lays 10 = .ok (.if_icmp .ge 80, 3) := by decide +kernel
theorem dX6_lays_13 : decode cX6_lays 13 = .ok (.iload 6, 2) := by decide +kernel
theorem dX6_lays_15 : decode cX6_lays 15 = .ok (.iconst 4, 1) := by decide +kernel
theorem dX6_lays_16 : decode cX6_lays 16 = .ok (.idiv, 1) := by decide +kernel
theorem dX6_lays_17 : decode cX6_lays 17 = .ok (.iload_n 3, 1) := by decide +kernel
theorem dX6_lays_18 : decode cX6_lays 18 = .ok (.iconst 4, 1) := by decide +kernel
theorem dX6_lays_19 : decode cX6_lays 19 = .ok (.idiv, 1) := by decide +kernel
theorem dX6_lays_20 : decode cX6_lays 20 = .ok (.iload 4, 2) := by decide +kernel
theorem dX6_lays_22 : decode cX6_lays 22 = .ok (.iconst 4, 1) := by decide +kernel
theorem dX6_lays_23 : decode cX6_lays 23 = .ok (.idiv, 1) := by decide +kernel
theorem dX6_lays_24 : decode cX6_lays 24 = .ok (.invokestatic 53, 3) := by decide +kernel
theorem dX6_lays_27 : decode cX6_lays 27 = .ok (.ifCond .eq 57, 3) := by decide +kernel
theorem dX6_lays_30 : decode cX6_lays 30 = .ok (.iload 6, 2) := by decide +kernel
theorem dX6_lays_32 : decode cX6_lays 32 = .ok (.iconst 4, 1) := by decide +kernel
theorem dX6_lays_33 : decode cX6_lays 33 = .ok (.irem, 1) := by decide +kernel
theorem dX6_lays_34 : decode cX6_lays 34 = .ok (.iload_n 3, 1) := by decide +kernel
theorem dX6_lays_35 : decode cX6_lays 35 = .ok (.iconst 4, 1) := by decide +kernel
theorem dX6_lays_36 : decode cX6_lays 36 = .ok (.irem, 1) := by decide +kernel
theorem dX6_lays_37 : decode cX6_lays 37 = .ok (.iload 4, 2) := by decide +kernel
theorem dX6_lays_39 : decode cX6_lays 39 = .ok (.iconst 4, 1) := by decide +kernel
theorem dX6_lays_40 : decode cX6_lays 40 = .ok (.irem, 1) := by decide +kernel
theorem dX6_lays_41 : decode cX6_lays 41 = .ok (.invokestatic 53, 3) := by decide +kernel
theorem dX6_lays_44 : decode cX6_lays 44 = .ok (.ifCond .eq 40, 3) := by decide +kernel
theorem dX6_lays_47 : decode cX6_lays 47 = .ok (.iload 5, 2) := by decide +kernel
theorem dX6_lays_49 : decode cX6_lays 49 = .ok (.aload_n 0, 1) := by decide +kernel
theorem dX6_lays_50 : decode cX6_lays 50 = .ok (.iload_n 1, 1) := by decide +kernel
theorem dX6_lays_51 : decode cX6_lays 51 = .ok (.iload 6, 2) := by decide +kernel
theorem dX6_lays_53 : decode cX6_lays 53 = .ok (.invokevirtual 79, 3) := by decide +kernel
theorem dX6_lays_56 : decode cX6_lays 56 = .ok (.iload_n 2, 1) := by decide +kernel
theorem dX6_lays_57 : decode cX6_lays 57 = .ok (.if_icmp .ne 7, 3) := by decide +kernel
theorem dX6_lays_60 : decode cX6_lays 60 = .ok (.iconst 0, 1) := by decide +kernel
theorem dX6_lays_61 : decode cX6_lays 61 = .ok (.goto 4, 3) := by decide +kernel
theorem dX6_lays_64 : decode cX6_lays 64 = .ok (.iconst 1, 1) := by decide +kernel
theorem dX6_lays_65 : decode cX6_lays 65 = .ok (.iadd, 1) := by decide +kernel
theorem dX6_lays_66 : decode cX6_lays 66 = .ok (.istore 5, 2) := by decide +kernel
theorem dX6_lays_68 : decode cX6_lays 68 = .ok (.aload_n 0, 1) := by decide +kernel
theorem dX6_lays_69 : decode cX6_lays 69 = .ok (.getfield 7, 3) := by decide +kernel
theorem dX6_lays_72 : decode cX6_lays 72 = .ok (.bipush 24, 2) := by decide +kernel
theorem dX6_lays_74 : decode cX6_lays 74 = .ok (.bipush 24, 2) := by decide +kernel
theorem dX6_lays_76 : decode cX6_lays 76 = .ok (.iload_n 1, 1) := by decide +kernel
theorem dX6_lays_77 : decode cX6_lays 77 = .ok (.imul, 1) := by decide +kernel
theorem dX6_lays_78 : decode cX6_lays 78 = .ok (.iadd, 1) := by decide +kernel
theorem dX6_lays_79 : decode cX6_lays 79 = .ok (.iload 6, 2) := by decide +kernel
theorem dX6_lays_81 : decode cX6_lays 81 = .ok (.iadd, 1) := by decide +kernel
theorem dX6_lays_82 : decode cX6_lays 82 = .ok (.iload_n 2, 1) := by decide +kernel
theorem dX6_lays_83 : decode cX6_lays 83 = .ok (.iastore, 1) := by decide +kernel
theorem dX6_lays_84 : decode cX6_lays 84 = .ok (.iinc 6 1, 3) := by decide +kernel
theorem dX6_lays_87 : decode cX6_lays 87 = .ok (.goto (-81), 3) := by decide +kernel
theorem dX6_lays_90 : decode cX6_lays 90 = .ok (.iload 5, 2) := by decide +kernel
theorem dX6_lays_92 : decode cX6_lays 92 = .ok (.ireturn, 1) := by decide +kernel
theorem dX6_puts_0 : decode cX6_puts 0 = .ok (.iload_n 1, 1) := by decide +kernel
theorem dX6_puts_1 : decode cX6_puts 1 = .ok (.invokestatic 65, 3) := by decide +kernel
theorem dX6_puts_4 : decode cX6_puts 4 = .ok (.ifCond .eq 34, 3) := by decide +kernel
theorem dX6_puts_7 : decode cX6_puts 7 = .ok (.iload_n 2, 1) := by decide +kernel
theorem dX6_puts_8 : decode cX6_puts 8 = .ok (.invokestatic 82, 3) := by decide +kernel
theorem dX6_puts_11 : decode cX6_puts 11 = .ok (.ifCond .eq 27, 3) := by decide +kernel
theorem dX6_puts_14 : decode cX6_puts 14 = .ok (.iload_n 3, 1) := by decide +kernel
theorem dX6_puts_15 : decode cX6_puts 15 = .ok (.invokestatic 85, 3) := by decide +kernel
theorem dX6_puts_18 : decode cX6_puts 18 = .ok (.ifCond .eq 20, 3) := by decide +kernel
theorem dX6_puts_21 : decode cX6_puts 21 = .ok (.iload 4, 2) := by decide +kernel
theorem dX6_puts_23 : decode cX6_puts 23 = .ok (.invokestatic 85, 3) := by decide +kernel
theorem dX6_puts_26 : decode cX6_puts 26 = .ok (.ifCond .eq 12, 3) := by decide +kernel
theorem dX6_puts_29 : decode cX6_puts 29 = .ok (.iload_n 3, 1) := by decide +kernel
theorem dX6_puts_30 : decode cX6_puts 30 = .ok (.iload 4, 2) := by decide +kernel
theorem dX6_puts_32 : decode cX6_puts 32 = .ok (.invokestatic 88, 3) := by decide +kernel
theorem dX6_puts_35 : decode cX6_puts 35 = .ok (.ifCond .ne 10, 3) := by decide +kernel
theorem dX6_puts_38 : decode cX6_puts 38 = .ok (.aload_n 0, 1) := by decide +kernel
theorem dX6_puts_39 : decode cX6_puts 39 = .ok (.bipush (-2), 2) := by decide +kernel
theorem dX6_puts_41 : decode cX6_puts 41 = .ok (.invokevirtual 68, 3) := by decide +kernel
theorem dX6_puts_44 : decode cX6_puts 44 = .ok (.ireturn, 1) := by decide +kernel
theorem dX6_puts_45 : decode cX6_puts 45 = .ok (.aload_n 0, 1) := by decide +kernel
theorem dX6_puts_46 : decode cX6_puts 46 = .ok (.invokevirtual 72, 3) := by decide +kernel
theorem dX6_puts_49 : decode cX6_puts 49 = .ok (.aload_n 0, 1) := by decide +kernel
theorem dX6_puts_50 : decode cX6_puts 50 = .ok (.iload_n 1, 1) := by decide +kernel
theorem dX6_puts_51 : decode cX6_puts 51 = .ok (.iload_n 2, 1) := by decide +kernel
theorem dX6_puts_52 : decode cX6_puts 52 = .ok (.iload_n 3, 1) := by decide +kernel
theorem dX6_puts_53 : decode cX6_puts 53 = .ok (.iload 4, 2) := by decide +kernel
theorem dX6_puts_55 : decode cX6_puts 55 = .ok (.invokevirtual 92, 3) := by decide +kernel
theorem dX6_puts_58 : decode cX6_puts 58 = .ok (.ireturn, 1) := by decide +kernel
theorem dX6_becomes_0 : decode cX6_becomes 0 = .ok (.aload_n 0, 1) := by decide +kernel
theorem dX6_becomes_1 : decode cX6_becomes 1 = .ok (.getfield 7, 3) := by decide +kernel
theorem dX6_becomes_4 : decode cX6_becomes 4 = .ok (.iload_n 1, 1) := by decide +kernel
theorem dX6_becomes_5 : decode cX6_becomes 5 = .ok (.iaload, 1) := by decide +kernel
theorem dX6_becomes_6 : decode cX6_becomes 6 = .ok (.istore_n 3, 1) := by decide +kernel
theorem dX6_becomes_7 : decode cX6_becomes 7 = .ok (.aload_n 0, 1) := by decide +kernel
theorem dX6_becomes_8 : decode cX6_becomes 8 = .ok (.getfield 7, 3) := by decide +kernel
theorem dX6_becomes_11 : decode cX6_becomes 11 = .ok (.iload_n 1, 1) := by decide +kernel
theorem dX6_becomes_12 : decode cX6_becomes 12 = .ok (.iload_n 2, 1) := by decide +kernel
theorem dX6_becomes_13 : decode cX6_becomes 13 = .ok (.iastore, 1) := by decide +kernel
theorem dX6_becomes_14 : decode cX6_becomes 14 = .ok (.iload_n 3, 1) := by decide +kernel
theorem dX6_becomes_15 : decode cX6_becomes 15 = .ok (.ireturn, 1) := by decide +kernel
theorem dX6_names_0 : decode cX6_names 0 = .ok (.iload_n 1, 1) := by decide +kernel
theorem dX6_names_1 : decode cX6_names 1 = .ok (.invokestatic 65, 3) := by decide +kernel
theorem dX6_names_4 : decode cX6_names 4 = .ok (.ifCond .eq 20, 3) := by decide +kernel
theorem dX6_names_7 : decode cX6_names 7 = .ok (.iload_n 2, 1) := by decide +kernel
theorem dX6_names_8 : decode cX6_names 8 = .ok (.invokestatic 82, 3) := by decide +kernel
theorem dX6_names_11 : decode cX6_names 11 = .ok (.ifCond .eq 13, 3) := by decide +kernel
theorem dX6_names_14 : decode cX6_names 14 = .ok (.iload_n 3, 1) := by decide +kernel
theorem dX6_names_15 : decode cX6_names 15 = .ok (.iconst 1, 1) := by decide +kernel
theorem dX6_names_16 : decode cX6_names 16 = .ok (.bipush 8, 2) := by decide +kernel
theorem dX6_names_18 : decode cX6_names 18 = .ok (.invokestatic 53, 3) := by decide +kernel
theorem dX6_names_21 : decode cX6_names 21 = .ok (.ifCond .ne 10, 3) := by decide +kernel
theorem dX6_names_24 : decode cX6_names 24 = .ok (.aload_n 0, 1) := by decide +kernel
theorem dX6_names_25 : decode cX6_names 25 = .ok (.bipush (-2), 2) := by decide +kernel
theorem dX6_names_27 : decode cX6_names 27 = .ok (.invokevirtual 68, 3) := by decide +kernel
theorem dX6_names_30 : decode cX6_names 30 = .ok (.ireturn, 1) := by decide +kernel
theorem dX6_names_31 : decode cX6_names 31 = .ok (.aload_n 0, 1) := by decide +kernel
theorem dX6_names_32 : decode cX6_names 32 = .ok (.invokevirtual 72, 3) := by decide +kernel
theorem dX6_names_35 : decode cX6_names 35 = .ok (.aload_n 0, 1) := by decide +kernel
theorem dX6_names_36 : decode cX6_names 36 = .ok (.bipush 120, 2) := by decide +kernel
theorem dX6_names_38 : decode cX6_names 38 = .ok (.bipush 6, 2) := by decide +kernel
theorem dX6_names_40 : decode cX6_names 40 = .ok (.iload_n 1, 1) := by decide +kernel
theorem dX6_names_41 : decode cX6_names 41 = .ok (.imul, 1) := by decide +kernel
theorem dX6_names_42 : decode cX6_names 42 = .ok (.iadd, 1) := by decide +kernel
theorem dX6_names_43 : decode cX6_names 43 = .ok (.iload_n 2, 1) := by decide +kernel
theorem dX6_names_44 : decode cX6_names 44 = .ok (.iadd, 1) := by decide +kernel
theorem dX6_names_45 : decode cX6_names 45 = .ok (.iload_n 3, 1) := by decide +kernel
theorem dX6_names_46 : decode cX6_names 46 = .ok (.invokevirtual 96, 3) := by decide +kernel
theorem dX6_names_49 : decode cX6_names 49 = .ok (.ireturn, 1) := by decide +kernel
theorem dX6_voters_0 : decode cX6_voters 0 = .ok (.iload_n 1, 1) := by decide +kernel
theorem dX6_voters_1 : decode cX6_voters 1 = .ok (.invokestatic 85, 3) := by decide +kernel
theorem dX6_voters_4 : decode cX6_voters 4 = .ok (.ifCond .eq 13, 3) := by decide +kernel
theorem dX6_voters_7 : decode cX6_voters 7 = .ok (.iload_n 2, 1) := by decide +kernel
theorem dX6_voters_8 : decode cX6_voters 8 = .ok (.iconst 0, 1) := by decide +kernel
theorem dX6_voters_9 : decode cX6_voters 9 = .ok (.bipush 99, 2) := by decide +kernel
theorem dX6_voters_11 : decode cX6_voters 11 = .ok (.invokestatic 53, 3) := by decide +kernel
theorem dX6_voters_14 : decode cX6_voters 14 = .ok (.ifCond .ne 10, 3) := by decide +kernel
theorem dX6_voters_17 : decode cX6_voters 17 = .ok (.aload_n 0, 1) := by decide +kernel
theorem dX6_voters_18 : decode cX6_voters 18 = .ok (.bipush (-2), 2) := by decide +kernel
theorem dX6_voters_20 : decode cX6_voters 20 = .ok (.invokevirtual 68, 3) := by decide +kernel
theorem dX6_voters_23 : decode cX6_voters 23 = .ok (.ireturn, 1) := by decide +kernel
theorem dX6_voters_24 : decode cX6_voters 24 = .ok (.aload_n 0, 1) := by decide +kernel
theorem dX6_voters_25 : decode cX6_voters 25 = .ok (.invokevirtual 72, 3) := by decide +kernel
theorem dX6_voters_28 : decode cX6_voters 28 = .ok (.aload_n 0, 1) := by decide +kernel
theorem dX6_voters_29 : decode cX6_voters 29 = .ok (.iload_n 1, 1) := by decide +kernel
theorem dX6_voters_30 : decode cX6_voters 30 = .ok (.iload_n 2, 1) := by decide +kernel
theorem dX6_voters_31 : decode cX6_voters 31 = .ok (.invokevirtual 96, 3) := by decide +kernel
theorem dX6_voters_34 : decode cX6_voters 34 = .ok (.ireturn, 1) := by decide +kernel
theorem dX6_draw_0 : decode cX6_draw 0 = .ok (.iload_n 1, 1) := by decide +kernel
theorem dX6_draw_1 : decode cX6_draw 1 = .ok (.invokestatic 65, 3) := by decide +kernel
theorem dX6_draw_4 : decode cX6_draw 4 = .ok (.ifCond .eq 23, 3) := by decide +kernel
theorem dX6_draw_7 : decode cX6_draw 7 = .ok (.iload_n 2, 1) := by decide +kernel
theorem dX6_draw_8 : decode cX6_draw 8 = .ok (.iconst 0, 1) := by decide +kernel
theorem dX6_draw_9 : decode cX6_draw 9 = .ok (.ldc 99, 2) := by decide +kernel
theorem dX6_draw_11 : decode cX6_draw 11 = .ok (.invokestatic 53, 3) := by decide +kernel
theorem dX6_draw_14 : decode cX6_draw 14 = .ok (.ifCond .eq 13, 3) := by decide +kernel
theorem dX6_draw_17 : decode cX6_draw 17 = .ok (.iload_n 3, 1) := by decide +kernel
theorem dX6_draw_18 : decode cX6_draw 18 = .ok (.iconst 1, 1) := by decide +kernel
theorem dX6_draw_19 : decode cX6_draw 19 = .ok (.bipush 6, 2) := by decide +kernel
theorem dX6_draw_21 : decode cX6_draw 21 = .ok (.invokestatic 53, 3) := by decide +kernel
theorem dX6_draw_24 : decode cX6_draw 24 = .ok (.ifCond .ne 10, 3) := by decide +kernel
theorem dX6_draw_27 : decode cX6_draw 27 = .ok (.aload_n 0, 1) := by decide +kernel
theorem dX6_draw_28 : decode cX6_draw 28 = .ok (.bipush (-2), 2) := by decide +kernel
theorem dX6_draw_30 : decode cX6_draw 30 = .ok (.invokevirtual 68, 3) := by decide +kernel
theorem dX6_draw_33 : decode cX6_draw 33 = .ok (.ireturn, 1) := by decide +kernel
theorem dX6_draw_34 : decode cX6_draw 34 = .ok (.aload_n 0, 1) := by decide +kernel
theorem dX6_draw_35 : decode cX6_draw 35 = .ok (.invokevirtual 72, 3) := by decide +kernel
theorem dX6_draw_38 : decode cX6_draw 38 = .ok (.iconst 0, 1) := by decide +kernel
theorem dX6_draw_39 : decode cX6_draw 39 = .ok (.istore 4, 2) := by decide +kernel
theorem dX6_draw_41 : decode cX6_draw 41 = .ok (.iload_n 2, 1) := by decide +kernel
theorem dX6_draw_42 : decode cX6_draw 42 = .ok (.i2l, 1) := by decide +kernel
theorem dX6_draw_43 : decode cX6_draw 43 = .ok (.lstore 5, 2) := by decide +kernel
theorem dX6_draw_45 : decode cX6_draw 45 = .ok (.iconst 0, 1) := by decide +kernel
theorem dX6_draw_46 : decode cX6_draw 46 = .ok (.istore 7, 2) := by decide +kernel
theorem dX6_draw_48 : decode cX6_draw 48 = .ok (.iload 7, 2) := by decide +kernel
theorem dX6_draw_50 : decode cX6_draw 50 = .ok (.bipush 24, 2) := by decide +kernel
theorem dX6_draw_52 : decode cX6_draw 52 = .ok (.if_icmp .ge 80, 3) := by decide +kernel
theorem dX6_draw_55 : decode cX6_draw 55 = .ok (.lload 5, 2) := by decide +kernel
theorem dX6_draw_57 : decode cX6_draw 57 = .ok (.ldc2_w 100, 3) := by decide +kernel
theorem dX6_draw_60 : decode cX6_draw 60 = .ok (.lmul, 1) := by decide +kernel
theorem dX6_draw_61 : decode cX6_draw 61 = .ok (.ldc2_w 102, 3) := by decide +kernel
theorem dX6_draw_64 : decode cX6_draw 64 = .ok (.ladd, 1) := by decide +kernel
theorem dX6_draw_65 : decode cX6_draw 65 = .ok (.ldc2_w 104, 3) := by decide +kernel
theorem dX6_draw_68 : decode cX6_draw 68 = .ok (.lrem, 1) := by decide +kernel
theorem dX6_draw_69 : decode cX6_draw 69 = .ok (.lstore 5, 2) := by decide +kernel
theorem dX6_draw_71 : decode cX6_draw 71 = .ok (.aload_n 0, 1) := by decide +kernel
theorem dX6_draw_72 : decode cX6_draw 72 = .ok (.getfield 7, 3) := by decide +kernel
theorem dX6_draw_75 : decode cX6_draw 75 = .ok (.bipush 24, 2) := by decide +kernel
theorem dX6_draw_77 : decode cX6_draw 77 = .ok (.bipush 24, 2) := by decide +kernel
theorem dX6_draw_79 : decode cX6_draw 79 = .ok (.iload_n 1, 1) := by decide +kernel
theorem dX6_draw_80 : decode cX6_draw 80 = .ok (.imul, 1) := by decide +kernel
theorem dX6_draw_81 : decode cX6_draw 81 = .ok (.iadd, 1) := by decide +kernel
theorem dX6_draw_82 : decode cX6_draw 82 = .ok (.iload 7, 2) := by decide +kernel
theorem dX6_draw_84 : decode cX6_draw 84 = .ok (.iadd, 1) := by decide +kernel
theorem dX6_draw_85 : decode cX6_draw 85 = .ok (.lload 5, 2) := by decide +kernel
theorem dX6_draw_87 : decode cX6_draw 87 = .ok (.ldc2_w 106, 3) := by decide +kernel
theorem dX6_draw_90 : decode cX6_draw 90 = .ok (.ldiv, 1) := by decide +kernel
theorem dX6_draw_91 : decode cX6_draw 91 = .ok (.iload_n 3, 1) := by decide +kernel
theorem dX6_draw_92 : decode cX6_draw 92 = .ok (.i2l, 1) := by decide +kernel
theorem dX6_draw_93 : decode cX6_draw 93 = .ok (.lrem, 1) := by decide +kernel
theorem dX6_draw_94 : decode cX6_draw 94 = .ok (.l2i, 1) := by decide +kernel
theorem dX6_draw_95 : decode cX6_draw 95 = .ok (.iastore, 1) := by decide +kernel
theorem dX6_draw_96 : decode cX6_draw 96 = .ok (.aload_n 0, 1) := by decide +kernel
theorem dX6_draw_97 : decode cX6_draw 97 = .ok (.getfield 7, 3) := by decide +kernel
theorem dX6_draw_100 : decode cX6_draw 100 = .ok (.iload 7, 2) := by decide +kernel
theorem dX6_draw_102 : decode cX6_draw 102 = .ok (.lload 5, 2) := by decide +kernel
theorem dX6_draw_104 : decode cX6_draw 104 = .ok (.ldc2_w 108, 3) := by decide +kernel
theorem dX6_draw_107 : decode cX6_draw 107 = .ok (.ldiv, 1) := by decide +kernel
theorem dX6_draw_108 : decode cX6_draw 108 = .ok (.ldc2_w 110, 3) := by decide +kernel
theorem dX6_draw_111 : decode cX6_draw 111 = .ok (.lrem, 1) := by decide +kernel
theorem dX6_draw_112 : decode cX6_draw 112 = .ok (.l2i, 1) := by decide +kernel
theorem dX6_draw_113 : decode cX6_draw 113 = .ok (.iastore, 1) := by decide +kernel
theorem dX6_draw_114 : decode cX6_draw 114 = .ok (.iload 4, 2) := by decide +kernel
theorem dX6_draw_116 : decode cX6_draw 116 = .ok (.aload_n 0, 1) := by decide +kernel
theorem dX6_draw_117 : decode cX6_draw 117 = .ok (.getfield 7, 3) := by decide +kernel
theorem dX6_draw_120 : decode cX6_draw 120 = .ok (.iload 7, 2) := by decide +kernel
theorem dX6_draw_122 : decode cX6_draw 122 = .ok (.iaload, 1) := by decide +kernel
theorem dX6_draw_123 : decode cX6_draw 123 = .ok (.iadd, 1) := by decide +kernel
theorem dX6_draw_124 : decode cX6_draw 124 = .ok (.istore 4, 2) := by decide +kernel
theorem dX6_draw_126 : decode cX6_draw 126 = .ok (.iinc 7 1, 3) := by decide +kernel
theorem dX6_draw_129 : decode cX6_draw 129 = .ok (.goto (-81), 3) := by decide +kernel
theorem dX6_draw_132 : decode cX6_draw 132 = .ok (.iload 4, 2) := by decide +kernel
theorem dX6_draw_134 : decode cX6_draw 134 = .ok (.ireturn, 1) := by decide +kernel
theorem dX6_follows_0 : decode cX6_follows 0 = .ok (.iload_n 1, 1) := by decide +kernel
theorem dX6_follows_1 : decode cX6_follows 1 = .ok (.invokestatic 65, 3) := by decide +kernel
theorem dX6_follows_4 : decode cX6_follows 4 = .ok (.ifCond .eq 19, 3) := by decide +kernel
theorem dX6_follows_7 : decode cX6_follows 7 = .ok (.iload_n 2, 1) := by decide +kernel
theorem dX6_follows_8 : decode cX6_follows 8 = .ok (.iconst 0, 1) := by decide +kernel
theorem dX6_follows_9 : decode cX6_follows 9 = .ok (.iconst 3, 1) := by decide +kernel
theorem dX6_follows_10 : decode cX6_follows 10 = .ok (.invokestatic 53, 3) := by decide +kernel
theorem dX6_follows_13 : decode cX6_follows 13 = .ok (.ifCond .eq 10, 3) := by decide +kernel
theorem dX6_follows_16 : decode cX6_follows 16 = .ok (.iload_n 3, 1) := by decide +kernel
theorem dX6_follows_17 : decode cX6_follows 17 = .ok (.invokestatic 65, 3) := by decide +kernel
theorem dX6_follows_20 : decode cX6_follows 20 = .ok (.ifCond .ne 10, 3) := by decide +kernel
theorem dX6_follows_23 : decode cX6_follows 23 = .ok (.aload_n 0, 1) := by decide +kernel
theorem dX6_follows_24 : decode cX6_follows 24 = .ok (.bipush (-2), 2) := by decide +kernel
theorem dX6_follows_26 : decode cX6_follows 26 = .ok (.invokevirtual 68, 3) := by decide +kernel
theorem dX6_follows_29 : decode cX6_follows 29 = .ok (.ireturn, 1) := by decide +kernel
theorem dX6_follows_30 : decode cX6_follows 30 = .ok (.aload_n 0, 1) := by decide +kernel
theorem dX6_follows_31 : decode cX6_follows 31 = .ok (.invokevirtual 72, 3) := by decide +kernel
theorem dX6_follows_34 : decode cX6_follows 34 = .ok (.iconst 0, 1) := by decide +kernel
theorem dX6_follows_35 : decode cX6_follows 35 = .ok (.istore 4, 2) := by decide +kernel
theorem dX6_follows_37 : decode cX6_follows 37 = .ok (.iload 4, 2) := by decide +kernel
theorem dX6_follows_39 : decode cX6_follows 39 = .ok (.bipush 24, 2) := by decide +kernel
theorem dX6_follows_41 : decode cX6_follows 41 = .ok (.if_icmp .ge 110, 3) := by decide +kernel
theorem dX6_follows_44 : decode cX6_follows 44 = .ok (.aload_n 0, 1) := by decide +kernel
theorem dX6_follows_45 : decode cX6_follows 45 = .ok (.iload_n 1, 1) := by decide +kernel
theorem dX6_follows_46 : decode cX6_follows 46 = .ok (.iload 4, 2) := by decide +kernel
theorem dX6_follows_48 : decode cX6_follows 48 = .ok (.invokevirtual 79, 3) := by decide +kernel
theorem dX6_follows_51 : decode cX6_follows 51 = .ok (.istore 5, 2) := by decide +kernel
theorem dX6_follows_53 : decode cX6_follows 53 = .ok (.aload_n 0, 1) := by decide +kernel
theorem dX6_follows_54 : decode cX6_follows 54 = .ok (.iload_n 3, 1) := by decide +kernel
theorem dX6_follows_55 : decode cX6_follows 55 = .ok (.iload 4, 2) := by decide +kernel
theorem dX6_follows_57 : decode cX6_follows 57 = .ok (.invokevirtual 79, 3) := by decide +kernel
theorem dX6_follows_60 : decode cX6_follows 60 = .ok (.istore 6, 2) := by decide +kernel
theorem dX6_follows_62 : decode cX6_follows 62 = .ok (.aload_n 0, 1) := by decide +kernel
theorem dX6_follows_63 : decode cX6_follows 63 = .ok (.getfield 41, 3) := by decide +kernel
theorem dX6_follows_66 : decode cX6_follows 66 = .ok (.iload 4, 2) := by decide +kernel
theorem dX6_follows_68 : decode cX6_follows 68 = .ok (.iload_n 2, 1) := by decide +kernel
theorem dX6_follows_69 : decode cX6_follows 69 = .ok (.ifCond .ne 8, 3) := by decide +kernel
theorem dX6_follows_72 : decode cX6_follows 72 = .ok (.iload 6, 2) := by decide +kernel
theorem dX6_follows_74 : decode cX6_follows 74 = .ok (.goto 70, 3) := by decide +kernel
theorem dX6_follows_77 : decode cX6_follows 77 = .ok (.iload_n 2, 1) := by decide +kernel
theorem dX6_follows_78 : decode cX6_follows 78 = .ok (.iconst 1, 1) := by decide +kernel
theorem dX6_follows_79 : decode cX6_follows 79 = .ok (.if_icmp .ne 24, 3) := by decide +kernel
theorem dX6_follows_82 : decode cX6_follows 82 = .ok (.aload_n 0, 1) := by decide +kernel
theorem dX6_follows_83 : decode cX6_follows 83 = .ok (.iload_n 1, 1) := by decide +kernel
theorem dX6_follows_84 : decode cX6_follows 84 = .ok (.iload 4, 2) := by decide +kernel
theorem dX6_follows_86 : decode cX6_follows 86 = .ok (.iconst 4, 1) := by decide +kernel
theorem dX6_follows_87 : decode cX6_follows 87 = .ok (.idiv, 1) := by decide +kernel
theorem dX6_follows_88 : decode cX6_follows 88 = .ok (.iconst 4, 1) := by decide +kernel
theorem dX6_follows_89 : decode cX6_follows 89 = .ok (.imul, 1) := by decide +kernel
theorem dX6_follows_90 : decode cX6_follows 90 = .ok (.iconst 3, 1) := by decide +kernel
theorem dX6_follows_91 : decode cX6_follows 91 = .ok (.iadd, 1) := by decide +kernel
theorem dX6_follows_92 : decode cX6_follows 92 = .ok (.iload 4, 2) := by decide +kernel
theorem dX6_follows_94 : decode cX6_follows 94 = .ok (.iconst 4, 1) := by decide +kernel
theorem dX6_follows_95 : decode cX6_follows 95 = .ok (.irem, 1) := by decide +kernel
theorem dX6_follows_96 : decode cX6_follows 96 = .ok (.isub, 1) := by decide +kernel
theorem dX6_follows_97 : decode cX6_follows 97 = .ok (.invokevirtual 79, 3) := by decide +kernel
theorem dX6_follows_100 : decode cX6_follows 100 = .ok (.goto 44, 3) := by decide +kernel
theorem dX6_follows_103 : decode cX6_follows 103 = .ok (.iload_n 2, 1) := by decide +kernel
theorem dX6_follows_104 : decode cX6_follows 104 = .ok (.iconst 2, 1) := by decide +kernel
theorem dX6_follows_105 : decode cX6_follows 105 = .ok (.if_icmp .ne 25, 3) := by decide +kernel
theorem dX6_follows_108 : decode cX6_follows 108 = .ok (.aload_n 0, 1) := by decide +kernel
theorem dX6_follows_109 : decode cX6_follows 109 = .ok (.iload_n 1, 1) := by decide +kernel
theorem dX6_follows_110 : decode cX6_follows 110 = .ok (.bipush 20, 2) := by decide +kernel
theorem dX6_follows_112 : decode cX6_follows 112 = .ok (.iload 4, 2) := by decide +kernel
theorem dX6_follows_114 : decode cX6_follows 114 = .ok (.iconst 4, 1) := by decide +kernel
theorem dX6_follows_115 : decode cX6_follows 115 = .ok (.idiv, 1) := by decide +kernel
theorem dX6_follows_116 : decode cX6_follows 116 = .ok (.iconst 4, 1) := by decide +kernel
theorem dX6_follows_117 : decode cX6_follows 117 = .ok (.imul, 1) := by decide +kernel
theorem dX6_follows_118 : decode cX6_follows 118 = .ok (.isub, 1) := by decide +kernel
theorem dX6_follows_119 : decode cX6_follows 119 = .ok (.iload 4, 2) := by decide +kernel
theorem dX6_follows_121 : decode cX6_follows 121 = .ok (.iconst 4, 1) := by decide +kernel
theorem dX6_follows_122 : decode cX6_follows 122 = .ok (.irem, 1) := by decide +kernel
theorem dX6_follows_123 : decode cX6_follows 123 = .ok (.iadd, 1) := by decide +kernel
theorem dX6_follows_124 : decode cX6_follows 124 = .ok (.invokevirtual 79, 3) := by decide +kernel
theorem dX6_follows_127 : decode cX6_follows 127 = .ok (.goto 17, 3) := by decide +kernel
theorem dX6_follows_130 : decode cX6_follows 130 = .ok (.iload 5, 2) := by decide +kernel
theorem dX6_follows_132 : decode cX6_follows 132 = .ok (.iload 6, 2) := by decide +kernel
theorem dX6_follows_134 : decode cX6_follows 134 = .ok (.if_icmp .le 8, 3) := by decide +kernel
theorem dX6_follows_137 : decode cX6_follows 137 = .ok (.iload 5, 2) := by decide +kernel
theorem dX6_follows_139 : decode cX6_follows 139 = .ok (.goto 5, 3) := by decide +kernel
theorem dX6_follows_142 : decode cX6_follows 142 = .ok (.iload 6, 2) := by decide +kernel
theorem dX6_follows_144 : decode cX6_follows 144 = .ok (.iastore, 1) := by decide +kernel
theorem dX6_follows_145 : decode cX6_follows 145 = .ok (.iinc 4 1, 3) := by decide +kernel
theorem dX6_follows_148 : decode cX6_follows 148 = .ok (.goto (-111), 3) := by decide +kernel
theorem dX6_follows_151 : decode cX6_follows 151 = .ok (.iconst 0, 1) := by decide +kernel
theorem dX6_follows_152 : decode cX6_follows 152 = .ok (.istore 4, 2) := by decide +kernel
theorem dX6_follows_154 : decode cX6_follows 154 = .ok (.iconst 0, 1) := by decide +kernel
theorem dX6_follows_155 : decode cX6_follows 155 = .ok (.istore 5, 2) := by decide +kernel
theorem dX6_follows_157 : decode cX6_follows 157 = .ok (.iload 5, 2) := by decide +kernel
theorem dX6_follows_159 : decode cX6_follows 159 = .ok (.bipush 24, 2) := by decide +kernel
theorem dX6_follows_161 : decode cX6_follows 161 = .ok (.if_icmp .ge 58, 3) := by decide +kernel
theorem dX6_follows_164 : decode cX6_follows 164 = .ok (.iload 4, 2) := by decide +kernel
theorem dX6_follows_166 : decode cX6_follows 166 = .ok (.aload_n 0, 1) := by decide +kernel
theorem dX6_follows_167 : decode cX6_follows 167 = .ok (.iload_n 1, 1) := by decide +kernel
theorem dX6_follows_168 : decode cX6_follows 168 = .ok (.iload 5, 2) := by decide +kernel
theorem dX6_follows_170 : decode cX6_follows 170 = .ok (.invokevirtual 79, 3) := by decide +kernel
theorem dX6_follows_173 : decode cX6_follows 173 = .ok (.aload_n 0, 1) := by decide +kernel
theorem dX6_follows_174 : decode cX6_follows 174 = .ok (.getfield 41, 3) := by decide +kernel
theorem dX6_follows_177 : decode cX6_follows 177 = .ok (.iload 5, 2) := by decide +kernel
theorem dX6_follows_179 : decode cX6_follows 179 = .ok (.iaload, 1) := by decide +kernel
theorem dX6_follows_180 : decode cX6_follows 180 = .ok (.if_icmp .ne 7, 3) := by decide +kernel
theorem dX6_follows_183 : decode cX6_follows 183 = .ok (.iconst 0, 1) := by decide +kernel
theorem dX6_follows_184 : decode cX6_follows 184 = .ok (.goto 4, 3) := by decide +kernel
theorem dX6_follows_187 : decode cX6_follows 187 = .ok (.iconst 1, 1) := by decide +kernel
theorem dX6_follows_188 : decode cX6_follows 188 = .ok (.iadd, 1) := by decide +kernel
theorem dX6_follows_189 : decode cX6_follows 189 = .ok (.istore 4, 2) := by decide +kernel
theorem dX6_follows_191 : decode cX6_follows 191 = .ok (.aload_n 0, 1) := by decide +kernel
theorem dX6_follows_192 : decode cX6_follows 192 = .ok (.getfield 7, 3) := by decide +kernel
theorem dX6_follows_195 : decode cX6_follows 195 = .ok (.bipush 24, 2) := by decide +kernel
theorem dX6_follows_197 : decode cX6_follows 197 = .ok (.bipush 24, 2) := by decide +kernel
theorem dX6_follows_199 : decode cX6_follows 199 = .ok (.iload_n 1, 1) := by decide +kernel
theorem dX6_follows_200 : decode cX6_follows 200 = .ok (.imul, 1) := by decide +kernel
theorem dX6_follows_201 : decode cX6_follows 201 = .ok (.iadd, 1) := by decide +kernel
theorem dX6_follows_202 : decode cX6_follows 202 = .ok (.iload 5, 2) := by decide +kernel
theorem dX6_follows_204 : decode cX6_follows 204 = .ok (.iadd, 1) := by decide +kernel
theorem dX6_follows_205 : decode cX6_follows 205 = .ok (.aload_n 0, 1) := by decide +kernel
theorem dX6_follows_206 : decode cX6_follows 206 = .ok (.getfield 41, 3) := by decide +kernel
theorem dX6_follows_209 : decode cX6_follows 209 = .ok (.iload 5, 2) := by decide +kernel
theorem dX6_follows_211 : decode cX6_follows 211 = .ok (.iaload, 1) := by decide +kernel
theorem dX6_follows_212 : decode cX6_follows 212 = .ok (.iastore, 1) := by decide +kernel
theorem dX6_follows_213 : decode cX6_follows 213 = .ok (.iinc 5 1, 3) := by decide +kernel
theorem dX6_follows_216 : decode cX6_follows 216 = .ok (.goto (-59), 3) := by decide +kernel
theorem dX6_follows_219 : decode cX6_follows 219 = .ok (.iload 4, 2) := by decide +kernel
theorem dX6_follows_221 : decode cX6_follows 221 = .ok (.ireturn, 1) := by decide +kernel
theorem dX6_undo_0 : decode cX6_undo 0 = .ok (.aload_n 0, 1) := by decide +kernel
theorem dX6_undo_1 : decode cX6_undo 1 = .ok (.getfield 57, 3) := by decide +kernel
theorem dX6_undo_4 : decode cX6_undo 4 = .ok (.ifCond .ne 10, 3) := by decide +kernel
theorem dX6_undo_7 : decode cX6_undo 7 = .ok (.aload_n 0, 1) := by decide +kernel
theorem dX6_undo_8 : decode cX6_undo 8 = .ok (.bipush (-3), 2) := by decide +kernel
theorem dX6_undo_10 : decode cX6_undo 10 = .ok (.invokevirtual 68, 3) := by decide +kernel
theorem dX6_undo_13 : decode cX6_undo 13 = .ok (.ireturn, 1) := by decide +kernel
theorem dX6_undo_14 : decode cX6_undo 14 = .ok (.aload_n 0, 1) := by decide +kernel
theorem dX6_undo_15 : decode cX6_undo 15 = .ok (.dup, 1) := by decide +kernel
theorem dX6_undo_16 : decode cX6_undo 16 = .ok (.getfield 57, 3) := by decide +kernel
theorem dX6_undo_19 : decode cX6_undo 19 = .ok (.iconst 1, 1) := by decide +kernel
theorem dX6_undo_20 : decode cX6_undo 20 = .ok (.isub, 1) := by decide +kernel
theorem dX6_undo_21 : decode cX6_undo 21 = .ok (.putfield 57, 3) := by decide +kernel
theorem dX6_undo_24 : decode cX6_undo 24 = .ok (.iconst 0, 1) := by decide +kernel
theorem dX6_undo_25 : decode cX6_undo 25 = .ok (.istore_n 1, 1) := by decide +kernel
theorem dX6_undo_26 : decode cX6_undo 26 = .ok (.iload_n 1, 1) := by decide +kernel
theorem dX6_undo_27 : decode cX6_undo 27 = .ok (.sipush 145, 3) := by decide +kernel
theorem dX6_undo_30 : decode cX6_undo 30 = .ok (.if_icmp .ge 30, 3) := by decide +kernel
theorem dX6_undo_33 : decode cX6_undo 33 = .ok (.aload_n 0, 1) := by decide +kernel
theorem dX6_undo_34 : decode cX6_undo 34 = .ok (.getfield 7, 3) := by decide +kernel
theorem dX6_undo_37 : decode cX6_undo 37 = .ok (.iload_n 1, 1) := by decide +kernel
theorem dX6_undo_38 : decode cX6_undo 38 = .ok (.aload_n 0, 1) := by decide +kernel
theorem dX6_undo_39 : decode cX6_undo 39 = .ok (.getfield 13, 3) := by decide +kernel
theorem dX6_undo_42 : decode cX6_undo 42 = .ok (.sipush 145, 3) := by decide +kernel
theorem dX6_undo_45 : decode cX6_undo 45 = .ok (.aload_n 0, 1) := by decide +kernel
theorem dX6_undo_46 : decode cX6_undo 46 = .ok (.getfield 57, 3) := by decide +kernel
theorem dX6_undo_49 : decode cX6_undo 49 = .ok (.imul, 1) := by decide +kernel
theorem dX6_undo_50 : decode cX6_undo 50 = .ok (.iload_n 1, 1) := by decide +kernel
theorem dX6_undo_51 : decode cX6_undo 51 = .ok (.iadd, 1) := by decide +kernel
theorem dX6_undo_52 : decode cX6_undo 52 = .ok (.iaload, 1) := by decide +kernel
theorem dX6_undo_53 : decode cX6_undo 53 = .ok (.iastore, 1) := by decide +kernel
theorem dX6_undo_54 : decode cX6_undo 54 = .ok (.iinc 1 1, 3) := by decide +kernel
theorem dX6_undo_57 : decode cX6_undo 57 = .ok (.goto (-31), 3) := by decide +kernel
theorem dX6_undo_60 : decode cX6_undo 60 = .ok (.aload_n 0, 1) := by decide +kernel
theorem dX6_undo_61 : decode cX6_undo 61 = .ok (.getfield 57, 3) := by decide +kernel
theorem dX6_undo_64 : decode cX6_undo 64 = .ok (.ireturn, 1) := by decide +kernel
theorem dX6_of_0 : decode cX6_of 0 = .ok (.iload_n 1, 1) := by decide +kernel
theorem dX6_of_1 : decode cX6_of 1 = .ok (.invokestatic 85, 3) := by decide +kernel
theorem dX6_of_4 : decode cX6_of 4 = .ok (.ifCond .eq 12, 3) := by decide +kernel
theorem dX6_of_7 : decode cX6_of 7 = .ok (.iload_n 2, 1) := by decide +kernel
theorem dX6_of_8 : decode cX6_of 8 = .ok (.iconst 0, 1) := by decide +kernel
theorem dX6_of_9 : decode cX6_of 9 = .ok (.iconst 5, 1) := by decide +kernel
theorem dX6_of_10 : decode cX6_of 10 = .ok (.invokestatic 53, 3) := by decide +kernel
theorem dX6_of_13 : decode cX6_of 13 = .ok (.ifCond .ne 10, 3) := by decide +kernel
theorem dX6_of_16 : decode cX6_of 16 = .ok (.aload_n 0, 1) := by decide +kernel
theorem dX6_of_17 : decode cX6_of 17 = .ok (.bipush (-2), 2) := by decide +kernel
theorem dX6_of_19 : decode cX6_of 19 = .ok (.invokevirtual 68, 3) := by decide +kernel
theorem dX6_of_22 : decode cX6_of 22 = .ok (.ireturn, 1) := by decide +kernel
theorem dX6_of_23 : decode cX6_of 23 = .ok (.aload_n 0, 1) := by decide +kernel
theorem dX6_of_24 : decode cX6_of 24 = .ok (.invokevirtual 112, 3) := by decide +kernel
theorem dX6_of_27 : decode cX6_of 27 = .ok (.iload_n 2, 1) := by decide +kernel
theorem dX6_of_28 : decode cX6_of 28 = .ok (.ifCond .ne 12, 3) := by decide +kernel
theorem dX6_of_31 : decode cX6_of 31 = .ok (.aload_n 0, 1) := by decide +kernel
theorem dX6_of_32 : decode cX6_of 32 = .ok (.getfield 7, 3) := by decide +kernel
theorem dX6_of_35 : decode cX6_of 35 = .ok (.iload_n 1, 1) := by decide +kernel
theorem dX6_of_36 : decode cX6_of 36 = .ok (.iaload, 1) := by decide +kernel
theorem dX6_of_37 : decode cX6_of 37 = .ok (.goto 25, 3) := by decide +kernel
theorem dX6_of_40 : decode cX6_of 40 = .ok (.iload_n 2, 1) := by decide +kernel
theorem dX6_of_41 : decode cX6_of 41 = .ok (.iconst 1, 1) := by decide +kernel
theorem dX6_of_42 : decode cX6_of 42 = .ok (.if_icmp .ne 12, 3) := by decide +kernel
theorem dX6_of_45 : decode cX6_of 45 = .ok (.aload_n 0, 1) := by decide +kernel
theorem dX6_of_46 : decode cX6_of 46 = .ok (.getfield 32, 3) := by decide +kernel
theorem dX6_of_49 : decode cX6_of 49 = .ok (.iload_n 1, 1) := by decide +kernel
theorem dX6_of_50 : decode cX6_of 50 = .ok (.iaload, 1) := by decide +kernel
theorem dX6_of_51 : decode cX6_of 51 = .ok (.goto 11, 3) := by decide +kernel
theorem dX6_of_54 : decode cX6_of 54 = .ok (.aload_n 0, 1) := by decide +kernel
theorem dX6_of_55 : decode cX6_of 55 = .ok (.iload_n 2, 1) := by decide +kernel
theorem dX6_of_56 : decode cX6_of 56 = .ok (.iconst 2, 1) := by decide +kernel
theorem dX6_of_57 : decode cX6_of 57 = .ok (.isub, 1) := by decide +kernel
theorem dX6_of_58 : decode cX6_of 58 = .ok (.iload_n 1, 1) := by decide +kernel
theorem dX6_of_59 : decode cX6_of 59 = .ok (.invokevirtual 79, 3) := by decide +kernel
theorem dX6_of_62 : decode cX6_of 62 = .ok (.ireturn, 1) := by decide +kernel
theorem dX6_type_0 : decode cX6_type 0 = .ok (.iload_n 1, 1) := by decide +kernel
theorem dX6_type_1 : decode cX6_type 1 = .ok (.iconst 0, 1) := by decide +kernel
theorem dX6_type_2 : decode cX6_type 2 = .ok (.bipush 127, 2) := by decide +kernel
theorem dX6_type_4 : decode cX6_type 4 = .ok (.invokestatic 53, 3) := by decide +kernel
theorem dX6_type_7 : decode cX6_type 7 = .ok (.ifCond .ne 10, 3) := by decide +kernel
theorem dX6_type_10 : decode cX6_type 10 = .ok (.aload_n 0, 1) := by decide +kernel
theorem dX6_type_11 : decode cX6_type 11 = .ok (.bipush (-2), 2) := by decide +kernel
theorem dX6_type_13 : decode cX6_type 13 = .ok (.invokevirtual 68, 3) := by decide +kernel
theorem dX6_type_16 : decode cX6_type 16 = .ok (.ireturn, 1) := by decide +kernel
theorem dX6_type_17 : decode cX6_type 17 = .ok (.aload_n 0, 1) := by decide +kernel
theorem dX6_type_18 : decode cX6_type 18 = .ok (.getfield 115, 3) := by decide +kernel
theorem dX6_type_21 : decode cX6_type 21 = .ok (.bipush 120, 2) := by decide +kernel
theorem dX6_type_23 : decode cX6_type 23 = .ok (.if_icmp .ne 10, 3) := by decide +kernel
theorem dX6_type_26 : decode cX6_type 26 = .ok (.aload_n 0, 1) := by decide +kernel
theorem dX6_type_27 : decode cX6_type 27 = .ok (.bipush (-4), 2) := by decide +kernel
theorem dX6_type_29 : decode cX6_type 29 = .ok (.invokevirtual 68, 3) := by decide +kernel
theorem dX6_type_32 : decode cX6_type 32 = .ok (.ireturn, 1) := by decide +kernel
theorem dX6_type_33 : decode cX6_type 33 = .ok (.aload_n 0, 1) := by decide +kernel
theorem dX6_type_34 : decode cX6_type 34 = .ok (.getfield 22, 3) := by decide +kernel
theorem dX6_type_37 : decode cX6_type 37 = .ok (.aload_n 0, 1) := by decide +kernel
theorem dX6_type_38 : decode cX6_type 38 = .ok (.getfield 115, 3) := by decide +kernel
theorem dX6_type_41 : decode cX6_type 41 = .ok (.iload_n 1, 1) := by decide +kernel
theorem dX6_type_42 : decode cX6_type 42 = .ok (.iastore, 1) := by decide +kernel
theorem dX6_type_43 : decode cX6_type 43 = .ok (.aload_n 0, 1) := by decide +kernel
theorem dX6_type_44 : decode cX6_type 44 = .ok (.dup, 1) := by decide +kernel
theorem dX6_type_45 : decode cX6_type 45 = .ok (.getfield 115, 3) := by decide +kernel
theorem dX6_type_48 : decode cX6_type 48 = .ok (.iconst 1, 1) := by decide +kernel
theorem dX6_type_49 : decode cX6_type 49 = .ok (.iadd, 1) := by decide +kernel
theorem dX6_type_50 : decode cX6_type 50 = .ok (.putfield 115, 3) := by decide +kernel
theorem dX6_type_53 : decode cX6_type 53 = .ok (.aload_n 0, 1) := by decide +kernel
theorem dX6_type_54 : decode cX6_type 54 = .ok (.getfield 115, 3) := by decide +kernel
theorem dX6_type_57 : decode cX6_type 57 = .ok (.ireturn, 1) := by decide +kernel
theorem dX6_clear_0 : decode cX6_clear 0 = .ok (.aload_n 0, 1) := by decide +kernel
theorem dX6_clear_1 : decode cX6_clear 1 = .ok (.getfield 115, 3) := by decide +kernel
theorem dX6_clear_4 : decode cX6_clear 4 = .ok (.istore_n 1, 1) := by decide +kernel
theorem dX6_clear_5 : decode cX6_clear 5 = .ok (.aload_n 0, 1) := by decide +kernel
theorem dX6_clear_6 : decode cX6_clear 6 = .ok (.iconst 0, 1) := by decide +kernel
theorem dX6_clear_7 : decode cX6_clear 7 = .ok (.putfield 115, 3) := by decide +kernel
theorem dX6_clear_10 : decode cX6_clear 10 = .ok (.iload_n 1, 1) := by decide +kernel
theorem dX6_clear_11 : decode cX6_clear 11 = .ok (.ireturn, 1) := by decide +kernel
theorem dX6_byteAt_0 : decode cX6_byteAt 0 = .ok (.iload_n 1, 1) := by decide +kernel
theorem dX6_byteAt_1 : decode cX6_byteAt 1 = .ok (.aload_n 0, 1) := by decide +kernel
theorem dX6_byteAt_2 : decode cX6_byteAt 2 = .ok (.getfield 115, 3) := by decide +kernel
theorem dX6_byteAt_5 : decode cX6_byteAt 5 = .ok (.if_icmp .ge 12, 3) := by decide +kernel
theorem dX6_byteAt_8 : decode cX6_byteAt 8 = .ok (.aload_n 0, 1) := by decide +kernel
theorem dX6_byteAt_9 : decode cX6_byteAt 9 = .ok (.getfield 22, 3) := by decide +kernel
theorem dX6_byteAt_12 : decode cX6_byteAt 12 = .ok (.iload_n 1, 1) := by decide +kernel
theorem dX6_byteAt_13 : decode cX6_byteAt 13 = .ok (.iaload, 1) := by decide +kernel
theorem dX6_byteAt_14 : decode cX6_byteAt 14 = .ok (.goto 4, 3) := by decide +kernel
theorem dX6_byteAt_17 : decode cX6_byteAt 17 = .ok (.iconst (-1), 1) := by decide +kernel
theorem dX6_byteAt_18 : decode cX6_byteAt 18 = .ok (.ireturn, 1) := by decide +kernel
theorem dX6_skips_0 : decode cX6_skips 0 = .ok (.aload_n 0, 1) := by decide +kernel
theorem dX6_skips_1 : decode cX6_skips 1 = .ok (.aload_n 0, 1) := by decide +kernel
theorem dX6_skips_2 : decode cX6_skips 2 = .ok (.getfield 118, 3) := by decide +kernel
theorem dX6_skips_5 : decode cX6_skips 5 = .ok (.invokevirtual 121, 3) := by decide +kernel
theorem dX6_skips_8 : decode cX6_skips 8 = .ok (.bipush 32, 2) := by decide +kernel
theorem dX6_skips_10 : decode cX6_skips 10 = .ok (.if_icmp .ne 16, 3) := by decide +kernel
theorem dX6_skips_13 : decode cX6_skips 13 = .ok (.aload_n 0, 1) := by decide +kernel
theorem dX6_skips_14 : decode cX6_skips 14 = .ok (.dup, 1) := by decide +kernel
theorem dX6_skips_15 : decode cX6_skips 15 = .ok (.getfield 118, 3) := by decide +kernel
theorem dX6_skips_18 : decode cX6_skips 18 = .ok (.iconst 1, 1) := by decide +kernel
theorem dX6_skips_19 : decode cX6_skips 19 = .ok (.iadd, 1) := by decide +kernel
theorem dX6_skips_20 : decode cX6_skips 20 = .ok (.putfield 118, 3) := by decide +kernel
theorem dX6_skips_23 : decode cX6_skips 23 = .ok (.goto (-23), 3) := by decide +kernel
theorem dX6_skips_26 : decode cX6_skips 26 = .ok (.return_, 1) := by decide +kernel
theorem dX6_isNumber_0 : decode cX6_isNumber 0 = .ok (.aload_n 0, 1) := by decide +kernel
theorem dX6_isNumber_1 : decode cX6_isNumber 1 = .ok (.invokevirtual 124, 3) := by decide +kernel
theorem dX6_isNumber_4 : decode cX6_isNumber 4 = .ok (.aload_n 0, 1) := by decide +kernel
theorem dX6_isNumber_5 : decode cX6_isNumber 5 = .ok (.getfield 118, 3) := by decide +kernel
theorem dX6_isNumber_8 : decode cX6_isNumber 8 = .ok (.istore 4, 2) := by decide +kernel
theorem dX6_isNumber_10 : decode cX6_isNumber 10 = .ok (.iconst 0, 1) := by decide +kernel
theorem dX6_isNumber_11 : decode cX6_isNumber 11 = .ok (.istore 5, 2) := by decide +kernel
theorem dX6_isNumber_13 : decode cX6_isNumber 13 = .ok (.aload_n 0, 1) := by decide +kernel
theorem dX6_isNumber_14 : decode cX6_isNumber 14 = .ok (.iload 4, 2) := by decide +kernel
theorem dX6_isNumber_16 : decode cX6_isNumber 16 = .ok (.invokevirtual 121, 3) := by decide +kernel
theorem dX6_isNumber_19 : decode cX6_isNumber 19 = .ok (.bipush 48, 2) := by decide +kernel
theorem dX6_isNumber_21 : decode cX6_isNumber 21 = .ok (.bipush 57, 2) := by decide +kernel
theorem dX6_isNumber_23 : decode cX6_isNumber 23 = .ok (.invokestatic 53, 3) := by decide +kernel
theorem dX6_isNumber_26 : decode cX6_isNumber 26 = .ok (.ifCond .eq 38, 3) := by decide +kernel
theorem dX6_isNumber_29 : decode cX6_isNumber 29 = .ok (.iload 4, 2) := by decide +kernel
theorem dX6_isNumber_31 : decode cX6_isNumber 31 = .ok (.aload_n 0, 1) := by decide +kernel
theorem dX6_isNumber_32 : decode cX6_isNumber 32 = .ok (.getfield 118, 3) := by decide +kernel
theorem dX6_isNumber_35 : decode cX6_isNumber 35 = .ok (.isub, 1) := by decide +kernel
theorem dX6_isNumber_36 : decode cX6_isNumber 36 = .ok (.iconst 3, 1) := by decide +kernel
theorem dX6_isNumber_37 : decode cX6_isNumber 37 = .ok (.if_icmp .ge 27, 3) := by decide +kernel
theorem dX6_isNumber_40 : decode cX6_isNumber 40 = .ok (.bipush 10, 2) := by decide +kernel
theorem dX6_isNumber_42 : decode cX6_isNumber 42 = .ok (.iload 5, 2) := by decide +kernel
theorem dX6_isNumber_44 : decode cX6_isNumber 44 = .ok (.imul, 1) := by decide +kernel
theorem dX6_isNumber_45 : decode cX6_isNumber 45 = .ok (.aload_n 0, 1) := by decide +kernel
theorem dX6_isNumber_46 : decode cX6_isNumber 46 = .ok (.getfield 22, 3) := by decide +kernel
theorem dX6_isNumber_49 : decode cX6_isNumber 49 = .ok (.iload 4, 2) := by decide +kernel
theorem dX6_isNumber_51 : decode cX6_isNumber 51 = .ok (.iaload, 1) := by decide +kernel
theorem dX6_isNumber_52 : decode cX6_isNumber 52 = .ok (.iadd, 1) := by decide +kernel
theorem dX6_isNumber_53 : decode cX6_isNumber 53 = .ok (.bipush 48, 2) := by decide +kernel
theorem dX6_isNumber_55 : decode cX6_isNumber 55 = .ok (.isub, 1) := by decide +kernel
theorem dX6_isNumber_56 : decode cX6_isNumber 56 = .ok (.istore 5, 2) := by decide +kernel
theorem dX6_isNumber_58 : decode cX6_isNumber 58 = .ok (.iinc 4 1, 3) := by decide +kernel
theorem dX6_isNumber_61 : decode cX6_isNumber 61 = .ok (.goto (-48), 3) := by decide +kernel
theorem dX6_isNumber_64 : decode cX6_isNumber 64 = .ok (.iload 4, 2) := by decide +kernel
theorem dX6_isNumber_66 : decode cX6_isNumber 66 = .ok (.aload_n 0, 1) := by decide +kernel
theorem dX6_isNumber_67 : decode cX6_isNumber 67 = .ok (.getfield 118, 3) := by decide +kernel
theorem dX6_isNumber_70 : decode cX6_isNumber 70 = .ok (.if_icmp .le 28, 3) := by decide +kernel
theorem dX6_isNumber_73 : decode cX6_isNumber 73 = .ok (.iload 4, 2) := by decide +kernel
theorem dX6_isNumber_75 : decode cX6_isNumber 75 = .ok (.aload_n 0, 1) := by decide +kernel
theorem dX6_isNumber_76 : decode cX6_isNumber 76 = .ok (.getfield 118, 3) := by decide +kernel
theorem dX6_isNumber_79 : decode cX6_isNumber 79 = .ok (.isub, 1) := by decide +kernel
theorem dX6_isNumber_80 : decode cX6_isNumber 80 = .ok (.iconst 3, 1) := by decide +kernel
theorem dX6_isNumber_81 : decode cX6_isNumber 81 = .ok (.if_icmp .ge 17, 3) := by decide +kernel
theorem dX6_isNumber_84 : decode cX6_isNumber 84 = .ok (.iload 5, 2) := by decide +kernel
theorem dX6_isNumber_86 : decode cX6_isNumber 86 = .ok (.iload_n 2, 1) := by decide +kernel
theorem dX6_isNumber_87 : decode cX6_isNumber 87 = .ok (.iload_n 3, 1) := by decide +kernel
theorem dX6_isNumber_88 : decode cX6_isNumber 88 = .ok (.invokestatic 53, 3) := by decide +kernel
theorem dX6_isNumber_91 : decode cX6_isNumber 91 = .ok (.ifCond .eq 7, 3) := by decide +kernel
theorem dX6_isNumber_94 : decode cX6_isNumber 94 = .ok (.iconst 1, 1) := by decide +kernel
theorem dX6_isNumber_95 : decode cX6_isNumber 95 = .ok (.goto 4, 3) := by decide +kernel
theorem dX6_isNumber_98 : decode cX6_isNumber 98 = .ok (.iconst 0, 1) := by decide +kernel
theorem dX6_isNumber_99 : decode cX6_isNumber 99 = .ok (.istore 6, 2) := by decide +kernel
theorem dX6_isNumber_101 : decode cX6_isNumber 101 = .ok (.aload_n 0, 1) := by decide +kernel
theorem dX6_isNumber_102 : decode cX6_isNumber 102 = .ok (.getfield 25, 3) := by decide +kernel
theorem dX6_isNumber_105 : decode cX6_isNumber 105 = .ok (.iload_n 1, 1) := by decide +kernel
theorem dX6_isNumber_106 : decode cX6_isNumber 106 = .ok (.iload 5, 2) := by decide +kernel
theorem dX6_isNumber_108 : decode cX6_isNumber 108 = .ok (.iastore, 1) := by decide +kernel
theorem dX6_isNumber_109 : decode cX6_isNumber 109 = .ok (.aload_n 0, 1) := by decide +kernel
theorem dX6_isNumber_110 : decode cX6_isNumber 110 = .ok (.iload 6, 2) := by decide +kernel
theorem dX6_isNumber_112 : decode cX6_isNumber 112 = .ok (.ifCond .eq 8, 3) := by decide +kernel
theorem dX6_isNumber_115 : decode cX6_isNumber 115 = .ok (.iload 4, 2) := by decide +kernel
theorem dX6_isNumber_117 : decode cX6_isNumber 117 = .ok (.goto 7, 3) := by decide +kernel
theorem dX6_isNumber_120 : decode cX6_isNumber 120 = .ok (.aload_n 0, 1) := by decide +kernel
theorem dX6_isNumber_121 : decode cX6_isNumber 121 = .ok (.getfield 118, 3) := by decide +kernel
theorem dX6_isNumber_124 : decode cX6_isNumber 124 = .ok (.putfield 118, 3) := by decide +kernel
theorem dX6_isNumber_127 : decode cX6_isNumber 127 = .ok (.iload 6, 2) := by decide +kernel
theorem dX6_isNumber_129 : decode cX6_isNumber 129 = .ok (.ireturn, 1) := by decide +kernel
theorem dX6_isWord_0 : decode cX6_isWord 0 = .ok (.iconst 1, 1) := by decide +kernel
theorem dX6_isWord_1 : decode cX6_isWord 1 = .ok (.istore_n 3, 1) := by decide +kernel
theorem dX6_isWord_2 : decode cX6_isWord 2 = .ok (.iconst 0, 1) := by decide +kernel
theorem dX6_isWord_3 : decode cX6_isWord 3 = .ok (.istore 4, 2) := by decide +kernel
theorem dX6_isWord_5 : decode cX6_isWord 5 = .ok (.iload 4, 2) := by decide +kernel
theorem dX6_isWord_7 : decode cX6_isWord 7 = .ok (.iload_n 2, 1) := by decide +kernel
theorem dX6_isWord_8 : decode cX6_isWord 8 = .ok (.if_icmp .ge 42, 3) := by decide +kernel
theorem dX6_isWord_11 : decode cX6_isWord 11 = .ok (.iload_n 3, 1) := by decide +kernel
theorem dX6_isWord_12 : decode cX6_isWord 12 = .ok (.ifCond .eq 30, 3) := by decide +kernel
theorem dX6_isWord_15 : decode cX6_isWord 15 = .ok (.aload_n 0, 1) := by decide +kernel
theorem dX6_isWord_16 : decode cX6_isWord 16 = .ok (.aload_n 0, 1) := by decide +kernel
theorem dX6_isWord_17 : decode cX6_isWord 17 = .ok (.getfield 118, 3) := by decide +kernel
theorem dX6_isWord_20 : decode cX6_isWord 20 = .ok (.iload 4, 2) := by decide +kernel
theorem dX6_isWord_22 : decode cX6_isWord 22 = .ok (.iadd, 1) := by decide +kernel
theorem dX6_isWord_23 : decode cX6_isWord 23 = .ok (.invokevirtual 121, 3) := by decide +kernel
theorem dX6_isWord_26 : decode cX6_isWord 26 = .ok (.aload_n 0, 1) := by decide +kernel
theorem dX6_isWord_27 : decode cX6_isWord 27 = .ok (.getfield 28, 3) := by decide +kernel
theorem dX6_isWord_30 : decode cX6_isWord 30 = .ok (.iload_n 1, 1) := by decide +kernel
theorem dX6_isWord_31 : decode cX6_isWord 31 = .ok (.iload 4, 2) := by decide +kernel
theorem dX6_isWord_33 : decode cX6_isWord 33 = .ok (.iadd, 1) := by decide +kernel
theorem dX6_isWord_34 : decode cX6_isWord 34 = .ok (.caload, 1) := by decide +kernel
theorem dX6_isWord_35 : decode cX6_isWord 35 = .ok (.if_icmp .ne 7, 3) := by decide +kernel
theorem dX6_isWord_38 : decode cX6_isWord 38 = .ok (.iconst 1, 1) := by decide +kernel
theorem dX6_isWord_39 : decode cX6_isWord 39 = .ok (.goto 4, 3) := by decide +kernel
theorem dX6_isWord_42 : decode cX6_isWord 42 = .ok (.iconst 0, 1) := by decide +kernel
theorem dX6_isWord_43 : decode cX6_isWord 43 = .ok (.istore_n 3, 1) := by decide +kernel
theorem dX6_isWord_44 : decode cX6_isWord 44 = .ok (.iinc 4 1, 3) := by decide +kernel
theorem dX6_isWord_47 : decode cX6_isWord 47 = .ok (.goto (-42), 3) := by decide +kernel
theorem dX6_isWord_50 : decode cX6_isWord 50 = .ok (.iload_n 3, 1) := by decide +kernel
theorem dX6_isWord_51 : decode cX6_isWord 51 = .ok (.ifCond .eq 27, 3) := by decide +kernel
theorem dX6_isWord_54 : decode cX6_isWord 54 = .ok (.aload_n 0, 1) := by decide +kernel
theorem dX6_isWord_55 : decode cX6_isWord 55 = .ok (.aload_n 0, 1) := by decide +kernel
theorem dX6_isWord_56 : decode cX6_isWord 56 = .ok (.getfield 118, 3) := by decide +kernel
theorem dX6_isWord_59 : decode cX6_isWord 59 = .ok (.iload_n 2, 1) := by decide +kernel
theorem dX6_isWord_60 : decode cX6_isWord 60 = .ok (.iadd, 1) := by decide +kernel
theorem dX6_isWord_61 : decode cX6_isWord 61 = .ok (.invokevirtual 121, 3) := by decide +kernel
theorem dX6_isWord_64 : decode cX6_isWord 64 = .ok (.bipush 97, 2) := by decide +kernel
theorem dX6_isWord_66 : decode cX6_isWord 66 = .ok (.bipush 122, 2) := by decide +kernel
theorem dX6_isWord_68 : decode cX6_isWord 68 = .ok (.invokestatic 53, 3) := by decide +kernel
theorem dX6_isWord_71 : decode cX6_isWord 71 = .ok (.ifCond .ne 7, 3) := by decide +kernel
theorem dX6_isWord_74 : decode cX6_isWord 74 = .ok (.iconst 1, 1) := by decide +kernel
theorem dX6_isWord_75 : decode cX6_isWord 75 = .ok (.goto 4, 3) := by decide +kernel
theorem dX6_isWord_78 : decode cX6_isWord 78 = .ok (.iconst 0, 1) := by decide +kernel
theorem dX6_isWord_79 : decode cX6_isWord 79 = .ok (.ireturn, 1) := by decide +kernel
theorem dX6_word_0 : decode cX6_word 0 = .ok (.aload_n 0, 1) := by decide +kernel
theorem dX6_word_1 : decode cX6_word 1 = .ok (.invokevirtual 124, 3) := by decide +kernel
theorem dX6_word_4 : decode cX6_word 4 = .ok (.iconst 0, 1) := by decide +kernel
theorem dX6_word_5 : decode cX6_word 5 = .ok (.istore_n 1, 1) := by decide +kernel
theorem dX6_word_6 : decode cX6_word 6 = .ok (.iconst 0, 1) := by decide +kernel
theorem dX6_word_7 : decode cX6_word 7 = .ok (.istore_n 2, 1) := by decide +kernel
theorem dX6_word_8 : decode cX6_word 8 = .ok (.iload_n 2, 1) := by decide +kernel
theorem dX6_word_9 : decode cX6_word 9 = .ok (.aload_n 0, 1) := by decide +kernel
theorem dX6_word_10 : decode cX6_word 10 = .ok (.getfield 28, 3) := by decide +kernel
theorem dX6_word_13 : decode cX6_word 13 = .ok (.arraylength, 1) := by decide +kernel
theorem dX6_word_14 : decode cX6_word 14 = .ok (.if_icmp .ge 57, 3) := by decide +kernel
theorem dX6_word_17 : decode cX6_word 17 = .ok (.iconst 0, 1) := by decide +kernel
theorem dX6_word_18 : decode cX6_word 18 = .ok (.istore_n 3, 1) := by decide +kernel
theorem dX6_word_19 : decode cX6_word 19 = .ok (.aload_n 0, 1) := by decide +kernel
theorem dX6_word_20 : decode cX6_word 20 = .ok (.getfield 28, 3) := by decide +kernel
theorem dX6_word_23 : decode cX6_word 23 = .ok (.iload_n 2, 1) := by decide +kernel
theorem dX6_word_24 : decode cX6_word 24 = .ok (.iload_n 3, 1) := by decide +kernel
theorem dX6_word_25 : decode cX6_word 25 = .ok (.iadd, 1) := by decide +kernel
theorem dX6_word_26 : decode cX6_word 26 = .ok (.caload, 1) := by decide +kernel
theorem dX6_word_27 : decode cX6_word 27 = .ok (.bipush 32, 2) := by decide +kernel
theorem dX6_word_29 : decode cX6_word 29 = .ok (.if_icmp .eq 9, 3) := by decide +kernel
theorem dX6_word_32 : decode cX6_word 32 = .ok (.iinc 3 1, 3) := by decide +kernel
theorem dX6_word_35 : decode cX6_word 35 = .ok (.goto (-16), 3) := by decide +kernel
theorem dX6_word_38 : decode cX6_word 38 = .ok (.aload_n 0, 1) := by decide +kernel
theorem dX6_word_39 : decode cX6_word 39 = .ok (.iload_n 2, 1) := by decide +kernel
theorem dX6_word_40 : decode cX6_word 40 = .ok (.iload_n 3, 1) := by decide +kernel
theorem dX6_word_41 : decode cX6_word 41 = .ok (.invokevirtual 127, 3) := by decide +kernel
theorem dX6_word_44 : decode cX6_word 44 = .ok (.ifCond .eq 15, 3) := by decide +kernel
theorem dX6_word_47 : decode cX6_word 47 = .ok (.aload_n 0, 1) := by decide +kernel
theorem dX6_word_48 : decode cX6_word 48 = .ok (.dup, 1) := by decide +kernel
theorem dX6_word_49 : decode cX6_word 49 = .ok (.getfield 118, 3) := by decide +kernel
theorem dX6_word_52 : decode cX6_word 52 = .ok (.iload_n 3, 1) := by decide +kernel
theorem dX6_word_53 : decode cX6_word 53 = .ok (.iadd, 1) := by decide +kernel
theorem dX6_word_54 : decode cX6_word 54 = .ok (.putfield 118, 3) := by decide +kernel
theorem dX6_word_57 : decode cX6_word 57 = .ok (.iload_n 1, 1) := by decide +kernel
theorem dX6_word_58 : decode cX6_word 58 = .ok (.ireturn, 1) := by decide +kernel
theorem dX6_word_59 : decode cX6_word 59 = .ok (.iinc 1 1, 3) := by decide +kernel
theorem dX6_word_62 : decode cX6_word 62 = .ok (.iload_n 2, 1) := by decide +kernel
theorem dX6_word_63 : decode cX6_word 63 = .ok (.iload_n 3, 1) := by decide +kernel
theorem dX6_word_64 : decode cX6_word 64 = .ok (.iconst 1, 1) := by decide +kernel
theorem dX6_word_65 : decode cX6_word 65 = .ok (.iadd, 1) := by decide +kernel
theorem dX6_word_66 : decode cX6_word 66 = .ok (.iadd, 1) := by decide +kernel
theorem dX6_word_67 : decode cX6_word 67 = .ok (.istore_n 2, 1) := by decide +kernel
theorem dX6_word_68 : decode cX6_word 68 = .ok (.goto (-60), 3) := by decide +kernel
theorem dX6_word_71 : decode cX6_word 71 = .ok (.iconst (-1), 1) := by decide +kernel
theorem dX6_word_72 : decode cX6_word 72 = .ok (.ireturn, 1) := by decide +kernel
theorem dX6_isEnd_0 : decode cX6_isEnd 0 = .ok (.aload_n 0, 1) := by decide +kernel
theorem dX6_isEnd_1 : decode cX6_isEnd 1 = .ok (.invokevirtual 124, 3) := by decide +kernel
theorem dX6_isEnd_4 : decode cX6_isEnd 4 = .ok (.aload_n 0, 1) := by decide +kernel
theorem dX6_isEnd_5 : decode cX6_isEnd 5 = .ok (.getfield 118, 3) := by decide +kernel
theorem dX6_isEnd_8 : decode cX6_isEnd 8 = .ok (.istore_n 1, 1) := by decide +kernel
theorem dX6_isEnd_9 : decode cX6_isEnd 9 = .ok (.aload_n 0, 1) := by decide +kernel
theorem dX6_isEnd_10 : decode cX6_isEnd 10 = .ok (.iconst 3, 1) := by decide +kernel
theorem dX6_isEnd_11 : decode cX6_isEnd 11 = .ok (.iconst 0, 1) := by decide +kernel
theorem dX6_isEnd_12 : decode cX6_isEnd 12 = .ok (.bipush 23, 2) := by decide +kernel
theorem dX6_isEnd_14 : decode cX6_isEnd 14 = .ok (.invokevirtual 130, 3) := by decide +kernel
theorem dX6_isEnd_17 : decode cX6_isEnd 17 = .ok (.ifCond .eq 25, 3) := by decide +kernel
theorem dX6_isEnd_20 : decode cX6_isEnd 20 = .ok (.aload_n 0, 1) := by decide +kernel
theorem dX6_isEnd_21 : decode cX6_isEnd 21 = .ok (.getfield 25, 3) := by decide +kernel
theorem dX6_isEnd_24 : decode cX6_isEnd 24 = .ok (.iconst 2, 1) := by decide +kernel
theorem dX6_isEnd_25 : decode cX6_isEnd 25 = .ok (.iaload, 1) := by decide +kernel
theorem dX6_isEnd_26 : decode cX6_isEnd 26 = .ok (.aload_n 0, 1) := by decide +kernel
theorem dX6_isEnd_27 : decode cX6_isEnd 27 = .ok (.getfield 25, 3) := by decide +kernel
theorem dX6_isEnd_30 : decode cX6_isEnd 30 = .ok (.iconst 3, 1) := by decide +kernel
theorem dX6_isEnd_31 : decode cX6_isEnd 31 = .ok (.iaload, 1) := by decide +kernel
theorem dX6_isEnd_32 : decode cX6_isEnd 32 = .ok (.invokestatic 88, 3) := by decide +kernel
theorem dX6_isEnd_35 : decode cX6_isEnd 35 = .ok (.ifCond .eq 7, 3) := by decide +kernel
theorem dX6_isEnd_38 : decode cX6_isEnd 38 = .ok (.iconst 1, 1) := by decide +kernel
theorem dX6_isEnd_39 : decode cX6_isEnd 39 = .ok (.goto 4, 3) := by decide +kernel
theorem dX6_isEnd_42 : decode cX6_isEnd 42 = .ok (.iconst 0, 1) := by decide +kernel
theorem dX6_isEnd_43 : decode cX6_isEnd 43 = .ok (.istore_n 2, 1) := by decide +kernel
theorem dX6_isEnd_44 : decode cX6_isEnd 44 = .ok (.aload_n 0, 1) := by decide +kernel
theorem dX6_isEnd_45 : decode cX6_isEnd 45 = .ok (.iload_n 2, 1) := by decide +kernel
theorem dX6_isEnd_46 : decode cX6_isEnd 46 = .ok (.ifCond .eq 10, 3) := by decide +kernel
theorem dX6_isEnd_49 : decode cX6_isEnd 49 = .ok (.aload_n 0, 1) := by decide +kernel
theorem dX6_isEnd_50 : decode cX6_isEnd 50 = .ok (.getfield 118, 3) := by decide +kernel
theorem dX6_isEnd_53 : decode cX6_isEnd 53 = .ok (.goto 4, 3) := by decide +kernel
theorem dX6_isEnd_56 : decode cX6_isEnd 56 = .ok (.iload_n 1, 1) := by decide +kernel
theorem dX6_isEnd_57 : decode cX6_isEnd 57 = .ok (.putfield 118, 3) := by decide +kernel
theorem dX6_isEnd_60 : decode cX6_isEnd 60 = .ok (.iload_n 2, 1) := by decide +kernel
theorem dX6_isEnd_61 : decode cX6_isEnd 61 = .ok (.ireturn, 1) := by decide +kernel
theorem dX6_order_0 : decode cX6_order 0 = .ok (.aload_n 0, 1) := by decide +kernel
theorem dX6_order_1 : decode cX6_order 1 = .ok (.invokevirtual 133, 3) := by decide +kernel
theorem dX6_order_4 : decode cX6_order 4 = .ok (.istore_n 1, 1) := by decide +kernel
theorem dX6_order_5 : decode cX6_order 5 = .ok (.iload_n 1, 1) := by decide +kernel
theorem dX6_order_6 : decode cX6_order 6 = .ok (.ifCond .lt 7, 3) := by decide +kernel
theorem dX6_order_9 : decode cX6_order 9 = .ok (.iconst 1, 1) := by decide +kernel
theorem dX6_order_10 : decode cX6_order 10 = .ok (.goto 4, 3) := by decide +kernel
theorem dX6_order_13 : decode cX6_order 13 = .ok (.iconst 0, 1) := by decide +kernel
theorem dX6_order_14 : decode cX6_order 14 = .ok (.istore_n 2, 1) := by decide +kernel
theorem dX6_order_15 : decode cX6_order 15 = .ok (.iload_n 1, 1) := by decide +kernel
theorem dX6_order_16 : decode cX6_order 16 = .ok (.iconst 4, 1) := by decide +kernel
theorem dX6_order_17 : decode cX6_order 17 = .ok (.if_icmp .ne 34, 3) := by decide +kernel
theorem dX6_order_20 : decode cX6_order 20 = .ok (.aload_n 0, 1) := by decide +kernel
theorem dX6_order_21 : decode cX6_order 21 = .ok (.iconst 0, 1) := by decide +kernel
theorem dX6_order_22 : decode cX6_order 22 = .ok (.iconst 0, 1) := by decide +kernel
theorem dX6_order_23 : decode cX6_order 23 = .ok (.bipush 23, 2) := by decide +kernel
theorem dX6_order_25 : decode cX6_order 25 = .ok (.invokevirtual 130, 3) := by decide +kernel
theorem dX6_order_28 : decode cX6_order 28 = .ok (.ifCond .eq 18, 3) := by decide +kernel
theorem dX6_order_31 : decode cX6_order 31 = .ok (.aload_n 0, 1) := by decide +kernel
theorem dX6_order_32 : decode cX6_order 32 = .ok (.iconst 1, 1) := by decide +kernel
theorem dX6_order_33 : decode cX6_order 33 = .ok (.iconst 0, 1) := by decide +kernel
theorem dX6_order_34 : decode cX6_order 34 = .ok (.bipush 99, 2) := by decide +kernel
theorem dX6_order_36 : decode cX6_order 36 = .ok (.invokevirtual 130, 3) := by decide +kernel
theorem dX6_order_39 : decode cX6_order 39 = .ok (.ifCond .eq 7, 3) := by decide +kernel
theorem dX6_order_42 : decode cX6_order 42 = .ok (.iconst 1, 1) := by decide +kernel
theorem dX6_order_43 : decode cX6_order 43 = .ok (.goto 4, 3) := by decide +kernel
theorem dX6_order_46 : decode cX6_order 46 = .ok (.iconst 0, 1) := by decide +kernel
theorem dX6_order_47 : decode cX6_order 47 = .ok (.istore_n 2, 1) := by decide +kernel
theorem dX6_order_48 : decode cX6_order 48 = .ok (.goto 77, 3) := by decide +kernel
theorem dX6_order_51 : decode cX6_order 51 = .ok (.iload_n 2, 1) := by decide +kernel
theorem dX6_order_52 : decode cX6_order 52 = .ok (.ifCond .eq 73, 3) := by decide +kernel
theorem dX6_order_55 : decode cX6_order 55 = .ok (.aload_n 0, 1) := by decide +kernel
theorem dX6_order_56 : decode cX6_order 56 = .ok (.iconst 0, 1) := by decide +kernel
theorem dX6_order_57 : decode cX6_order 57 = .ok (.iconst 0, 1) := by decide +kernel
theorem dX6_order_58 : decode cX6_order 58 = .ok (.iconst 3, 1) := by decide +kernel
theorem dX6_order_59 : decode cX6_order 59 = .ok (.invokevirtual 130, 3) := by decide +kernel
theorem dX6_order_62 : decode cX6_order 62 = .ok (.ifCond .eq 61, 3) := by decide +kernel
theorem dX6_order_65 : decode cX6_order 65 = .ok (.iload_n 1, 1) := by decide +kernel
theorem dX6_order_66 : decode cX6_order 66 = .ok (.iconst 2, 1) := by decide +kernel
theorem dX6_order_67 : decode cX6_order 67 = .ok (.if_icmp .lt 13, 3) := by decide +kernel
theorem dX6_order_70 : decode cX6_order 70 = .ok (.aload_n 0, 1) := by decide +kernel
theorem dX6_order_71 : decode cX6_order 71 = .ok (.iconst 1, 1) := by decide +kernel
theorem dX6_order_72 : decode cX6_order 72 = .ok (.iconst 0, 1) := by decide +kernel
theorem dX6_order_73 : decode cX6_order 73 = .ok (.iconst 5, 1) := by decide +kernel
theorem dX6_order_74 : decode cX6_order 74 = .ok (.invokevirtual 130, 3) := by decide +kernel
theorem dX6_order_77 : decode cX6_order 77 = .ok (.ifCond .eq 46, 3) := by decide +kernel
theorem dX6_order_80 : decode cX6_order 80 = .ok (.iload_n 1, 1) := by decide +kernel
theorem dX6_order_81 : decode cX6_order 81 = .ok (.iconst 2, 1) := by decide +kernel
theorem dX6_order_82 : decode cX6_order 82 = .ok (.if_icmp .ne 21, 3) := by decide +kernel
theorem dX6_order_85 : decode cX6_order 85 = .ok (.aload_n 0, 1) := by decide +kernel
theorem dX6_order_86 : decode cX6_order 86 = .ok (.iconst 2, 1) := by decide +kernel
theorem dX6_order_87 : decode cX6_order 87 = .ok (.iconst 0, 1) := by decide +kernel
theorem dX6_order_88 : decode cX6_order 88 = .ok (.bipush 23, 2) := by decide +kernel
theorem dX6_order_90 : decode cX6_order 90 = .ok (.invokevirtual 130, 3) := by decide +kernel
theorem dX6_order_93 : decode cX6_order 93 = .ok (.ifCond .eq 30, 3) := by decide +kernel
theorem dX6_order_96 : decode cX6_order 96 = .ok (.aload_n 0, 1) := by decide +kernel
theorem dX6_order_97 : decode cX6_order 97 = .ok (.invokevirtual 137, 3) := by decide +kernel
theorem dX6_order_100 : decode cX6_order 100 = .ok (.ifCond .eq 23, 3) := by decide +kernel
theorem dX6_order_103 : decode cX6_order 103 = .ok (.iload_n 1, 1) := by decide +kernel
theorem dX6_order_104 : decode cX6_order 104 = .ok (.iconst 3, 1) := by decide +kernel
theorem dX6_order_105 : decode cX6_order 105 = .ok (.if_icmp .ne 14, 3) := by decide +kernel
theorem dX6_order_108 : decode cX6_order 108 = .ok (.aload_n 0, 1) := by decide +kernel
theorem dX6_order_109 : decode cX6_order 109 = .ok (.iconst 2, 1) := by decide +kernel
theorem dX6_order_110 : decode cX6_order 110 = .ok (.iconst 1, 1) := by decide +kernel
theorem dX6_order_111 : decode cX6_order 111 = .ok (.bipush 8, 2) := by decide +kernel
theorem dX6_order_113 : decode cX6_order 113 = .ok (.invokevirtual 130, 3) := by decide +kernel
theorem dX6_order_116 : decode cX6_order 116 = .ok (.ifCond .eq 7, 3) := by decide +kernel
theorem dX6_order_119 : decode cX6_order 119 = .ok (.iconst 1, 1) := by decide +kernel
theorem dX6_order_120 : decode cX6_order 120 = .ok (.goto 4, 3) := by decide +kernel
theorem dX6_order_123 : decode cX6_order 123 = .ok (.iconst 0, 1) := by decide +kernel
theorem dX6_order_124 : decode cX6_order 124 = .ok (.istore_n 2, 1) := by decide +kernel
theorem dX6_order_125 : decode cX6_order 125 = .ok (.iload_n 2, 1) := by decide +kernel
theorem dX6_order_126 : decode cX6_order 126 = .ok (.ifCond .ne 5, 3) := by decide +kernel
theorem dX6_order_129 : decode cX6_order 129 = .ok (.iconst (-1), 1) := by decide +kernel
theorem dX6_order_130 : decode cX6_order 130 = .ok (.ireturn, 1) := by decide +kernel
theorem dX6_order_131 : decode cX6_order 131 = .ok (.aload_n 0, 1) := by decide +kernel
theorem dX6_order_132 : decode cX6_order 132 = .ok (.invokevirtual 124, 3) := by decide +kernel
theorem dX6_order_135 : decode cX6_order 135 = .ok (.aload_n 0, 1) := by decide +kernel
theorem dX6_order_136 : decode cX6_order 136 = .ok (.aload_n 0, 1) := by decide +kernel
theorem dX6_order_137 : decode cX6_order 137 = .ok (.getfield 118, 3) := by decide +kernel
theorem dX6_order_140 : decode cX6_order 140 = .ok (.invokevirtual 121, 3) := by decide +kernel
theorem dX6_order_143 : decode cX6_order 143 = .ok (.bipush 59, 2) := by decide +kernel
theorem dX6_order_145 : decode cX6_order 145 = .ok (.if_icmp .eq 5, 3) := by decide +kernel
theorem dX6_order_148 : decode cX6_order 148 = .ok (.iconst (-1), 1) := by decide +kernel
theorem dX6_order_149 : decode cX6_order 149 = .ok (.ireturn, 1) := by decide +kernel
theorem dX6_order_150 : decode cX6_order 150 = .ok (.aload_n 0, 1) := by decide +kernel
theorem dX6_order_151 : decode cX6_order 151 = .ok (.dup, 1) := by decide +kernel
theorem dX6_order_152 : decode cX6_order 152 = .ok (.getfield 118, 3) := by decide +kernel
theorem dX6_order_155 : decode cX6_order 155 = .ok (.iconst 1, 1) := by decide +kernel
theorem dX6_order_156 : decode cX6_order 156 = .ok (.iadd, 1) := by decide +kernel
theorem dX6_order_157 : decode cX6_order 157 = .ok (.putfield 118, 3) := by decide +kernel
theorem dX6_order_160 : decode cX6_order 160 = .ok (.iload_n 1, 1) := by decide +kernel
theorem dX6_order_161 : decode cX6_order 161 = .ok (.ireturn, 1) := by decide +kernel
theorem dX6_done_0 : decode cX6_done 0 = .ok (.iload_n 1, 1) := by decide +kernel
theorem dX6_done_1 : decode cX6_done 1 = .ok (.iconst 2, 1) := by decide +kernel
theorem dX6_done_2 : decode cX6_done 2 = .ok (.if_icmp .ge 20, 3) := by decide +kernel
theorem dX6_done_5 : decode cX6_done 5 = .ok (.aload_n 0, 1) := by decide +kernel
theorem dX6_done_6 : decode cX6_done 6 = .ok (.aload_n 0, 1) := by decide +kernel
theorem dX6_done_7 : decode cX6_done 7 = .ok (.getfield 25, 3) := by decide +kernel
theorem dX6_done_10 : decode cX6_done 10 = .ok (.iconst 0, 1) := by decide +kernel
theorem dX6_done_11 : decode cX6_done 11 = .ok (.iaload, 1) := by decide +kernel
theorem dX6_done_12 : decode cX6_done 12 = .ok (.iconst 1, 1) := by decide +kernel
theorem dX6_done_13 : decode cX6_done 13 = .ok (.iload_n 1, 1) := by decide +kernel
theorem dX6_done_14 : decode cX6_done 14 = .ok (.isub, 1) := by decide +kernel
theorem dX6_done_15 : decode cX6_done 15 = .ok (.invokevirtual 75, 3) := by decide +kernel
theorem dX6_done_18 : decode cX6_done 18 = .ok (.pop, 1) := by decide +kernel
theorem dX6_done_19 : decode cX6_done 19 = .ok (.goto 98, 3) := by decide +kernel
theorem dX6_done_22 : decode cX6_done 22 = .ok (.iload_n 1, 1) := by decide +kernel
theorem dX6_done_23 : decode cX6_done 23 = .ok (.iconst 2, 1) := by decide +kernel
theorem dX6_done_24 : decode cX6_done 24 = .ok (.if_icmp .ne 35, 3) := by decide +kernel
theorem dX6_done_27 : decode cX6_done 27 = .ok (.aload_n 0, 1) := by decide +kernel
theorem dX6_done_28 : decode cX6_done 28 = .ok (.aload_n 0, 1) := by decide +kernel
theorem dX6_done_29 : decode cX6_done 29 = .ok (.getfield 25, 3) := by decide +kernel
theorem dX6_done_32 : decode cX6_done 32 = .ok (.iconst 0, 1) := by decide +kernel
theorem dX6_done_33 : decode cX6_done 33 = .ok (.iaload, 1) := by decide +kernel
theorem dX6_done_34 : decode cX6_done 34 = .ok (.aload_n 0, 1) := by decide +kernel
theorem dX6_done_35 : decode cX6_done 35 = .ok (.getfield 25, 3) := by decide +kernel
theorem dX6_done_38 : decode cX6_done 38 = .ok (.iconst 1, 1) := by decide +kernel
theorem dX6_done_39 : decode cX6_done 39 = .ok (.iaload, 1) := by decide +kernel
theorem dX6_done_40 : decode cX6_done 40 = .ok (.aload_n 0, 1) := by decide +kernel
theorem dX6_done_41 : decode cX6_done 41 = .ok (.getfield 25, 3) := by decide +kernel
theorem dX6_done_44 : decode cX6_done 44 = .ok (.iconst 2, 1) := by decide +kernel
theorem dX6_done_45 : decode cX6_done 45 = .ok (.iaload, 1) := by decide +kernel
theorem dX6_done_46 : decode cX6_done 46 = .ok (.aload_n 0, 1) := by decide +kernel
theorem dX6_done_47 : decode cX6_done 47 = .ok (.getfield 25, 3) := by decide +kernel
theorem dX6_done_50 : decode cX6_done 50 = .ok (.iconst 3, 1) := by decide +kernel
theorem dX6_done_51 : decode cX6_done 51 = .ok (.iaload, 1) := by decide +kernel
theorem dX6_done_52 : decode cX6_done 52 = .ok (.invokevirtual 92, 3) := by decide +kernel
theorem dX6_done_55 : decode cX6_done 55 = .ok (.pop, 1) := by decide +kernel
theorem dX6_done_56 : decode cX6_done 56 = .ok (.goto 61, 3) := by decide +kernel
theorem dX6_done_59 : decode cX6_done 59 = .ok (.aload_n 0, 1) := by decide +kernel
theorem dX6_done_60 : decode cX6_done 60 = .ok (.iload_n 1, 1) := by decide +kernel
theorem dX6_done_61 : decode cX6_done 61 = .ok (.iconst 4, 1) := by decide +kernel
theorem dX6_done_62 : decode cX6_done 62 = .ok (.if_icmp .ne 12, 3) := by decide +kernel
theorem dX6_done_65 : decode cX6_done 65 = .ok (.aload_n 0, 1) := by decide +kernel
theorem dX6_done_66 : decode cX6_done 66 = .ok (.getfield 25, 3) := by decide +kernel
theorem dX6_done_69 : decode cX6_done 69 = .ok (.iconst 0, 1) := by decide +kernel
theorem dX6_done_70 : decode cX6_done 70 = .ok (.iaload, 1) := by decide +kernel
theorem dX6_done_71 : decode cX6_done 71 = .ok (.goto 22, 3) := by decide +kernel
theorem dX6_done_74 : decode cX6_done 74 = .ok (.bipush 120, 2) := by decide +kernel
theorem dX6_done_76 : decode cX6_done 76 = .ok (.bipush 6, 2) := by decide +kernel
theorem dX6_done_78 : decode cX6_done 78 = .ok (.aload_n 0, 1) := by decide +kernel
theorem dX6_done_79 : decode cX6_done 79 = .ok (.getfield 25, 3) := by decide +kernel
theorem dX6_done_82 : decode cX6_done 82 = .ok (.iconst 0, 1) := by decide +kernel
theorem dX6_done_83 : decode cX6_done 83 = .ok (.iaload, 1) := by decide +kernel
theorem dX6_done_84 : decode cX6_done 84 = .ok (.imul, 1) := by decide +kernel
theorem dX6_done_85 : decode cX6_done 85 = .ok (.iadd, 1) := by decide +kernel
theorem dX6_done_86 : decode cX6_done 86 = .ok (.aload_n 0, 1) := by decide +kernel
theorem dX6_done_87 : decode cX6_done 87 = .ok (.getfield 25, 3) := by decide +kernel
theorem dX6_done_90 : decode cX6_done 90 = .ok (.iconst 1, 1) := by decide +kernel
theorem dX6_done_91 : decode cX6_done 91 = .ok (.iaload, 1) := by decide +kernel
theorem dX6_done_92 : decode cX6_done 92 = .ok (.iadd, 1) := by decide +kernel
theorem dX6_done_93 : decode cX6_done 93 = .ok (.iload_n 1, 1) := by decide +kernel
theorem dX6_done_94 : decode cX6_done 94 = .ok (.iconst 4, 1) := by decide +kernel
theorem dX6_done_95 : decode cX6_done 95 = .ok (.if_icmp .ne 12, 3) := by decide +kernel
theorem dX6_done_98 : decode cX6_done 98 = .ok (.aload_n 0, 1) := by decide +kernel
theorem dX6_done_99 : decode cX6_done 99 = .ok (.getfield 25, 3) := by decide +kernel
theorem dX6_done_102 : decode cX6_done 102 = .ok (.iconst 1, 1) := by decide +kernel
theorem dX6_done_103 : decode cX6_done 103 = .ok (.iaload, 1) := by decide +kernel
theorem dX6_done_104 : decode cX6_done 104 = .ok (.goto 9, 3) := by decide +kernel
theorem dX6_done_107 : decode cX6_done 107 = .ok (.aload_n 0, 1) := by decide +kernel
theorem dX6_done_108 : decode cX6_done 108 = .ok (.getfield 25, 3) := by decide +kernel
theorem dX6_done_111 : decode cX6_done 111 = .ok (.iconst 2, 1) := by decide +kernel
theorem dX6_done_112 : decode cX6_done 112 = .ok (.iaload, 1) := by decide +kernel
theorem dX6_done_113 : decode cX6_done 113 = .ok (.invokevirtual 96, 3) := by decide +kernel
theorem dX6_done_116 : decode cX6_done 116 = .ok (.pop, 1) := by decide +kernel
theorem dX6_done_117 : decode cX6_done 117 = .ok (.return_, 1) := by decide +kernel
theorem dX6_goesThrough_0 : decode cX6_goesThrough 0 = .ok (.iconst 0, 1) := by decide +kernel
theorem dX6_goesThrough_1 : decode cX6_goesThrough 1 = .ok (.istore_n 2, 1) := by decide +kernel
theorem dX6_goesThrough_2 : decode cX6_goesThrough 2 = .ok (.aload_n 0, 1) := by decide +kernel
theorem dX6_goesThrough_3 : decode cX6_goesThrough 3 = .ok (.iconst 0, 1) := by decide +kernel
theorem dX6_goesThrough_4 : decode cX6_goesThrough 4 = .ok (.putfield 118, 3) := by decide +kernel
theorem dX6_goesThrough_7 : decode cX6_goesThrough 7 = .ok (.aload_n 0, 1) := by decide +kernel
theorem dX6_goesThrough_8 : decode cX6_goesThrough 8 = .ok (.invokevirtual 124, 3) := by decide +kernel
theorem dX6_goesThrough_11 : decode cX6_goesThrough 11 = .ok (.aload_n 0, 1) := by decide +kernel
theorem dX6_goesThrough_12 : decode cX6_goesThrough 12 = .ok (.getfield 118, 3) := by decide +kernel
theorem dX6_goesThrough_15 : decode cX6_goesThrough 15 = .ok (.aload_n 0, 1) := by decide +kernel
theorem dX6_goesThrough_16 : decode cX6_goesThrough 16 = .ok (.getfield 115, 3) := by decide +kernel
theorem dX6_goesThrough_19 : decode cX6_goesThrough 19 = .ok (.if_icmp .lt 7, 3) := by decide +kernel
theorem dX6_goesThrough_22 : decode cX6_goesThrough 22 = .ok (.iload_n 2, 1) := by decide +kernel
theorem dX6_goesThrough_23 : decode cX6_goesThrough 23 = .ok (.ifCond .ne 33, 3) := by decide +kernel
theorem dX6_goesThrough_26 : decode cX6_goesThrough 26 = .ok (.aload_n 0, 1) := by decide +kernel
theorem dX6_goesThrough_27 : decode cX6_goesThrough 27 = .ok (.invokevirtual 141, 3) := by decide +kernel
theorem dX6_goesThrough_30 : decode cX6_goesThrough 30 = .ok (.istore_n 3, 1) := by decide +kernel
theorem dX6_goesThrough_31 : decode cX6_goesThrough 31 = .ok (.iload_n 3, 1) := by decide +kernel
theorem dX6_goesThrough_32 : decode cX6_goesThrough 32 = .ok (.ifCond .ge 5, 3) := by decide +kernel
theorem dX6_goesThrough_35 : decode cX6_goesThrough 35 = .ok (.iconst (-1), 1) := by decide +kernel
theorem dX6_goesThrough_36 : decode cX6_goesThrough 36 = .ok (.ireturn, 1) := by decide +kernel
theorem dX6_goesThrough_37 : decode cX6_goesThrough 37 = .ok (.iload_n 1, 1) := by decide +kernel
theorem dX6_goesThrough_38 : decode cX6_goesThrough 38 = .ok (.ifCond .eq 8, 3) := by decide +kernel
theorem dX6_goesThrough_41 : decode cX6_goesThrough 41 = .ok (.aload_n 0, 1) := by decide +kernel
theorem dX6_goesThrough_42 : decode cX6_goesThrough 42 = .ok (.iload_n 3, 1) := by decide +kernel
theorem dX6_goesThrough_43 : decode cX6_goesThrough 43 = .ok (.invokevirtual 144, 3) := by decide +kernel
theorem dX6_goesThrough_46 : decode cX6_goesThrough 46 = .ok (.iinc 2 1, 3) := by decide +kernel
theorem dX6_goesThrough_49 : decode cX6_goesThrough 49 = .ok (.aload_n 0, 1) := by decide +kernel
theorem dX6_goesThrough_50 : decode cX6_goesThrough 50 = .ok (.invokevirtual 124, 3) := by decide +kernel
theorem dX6_goesThrough_53 : decode cX6_goesThrough 53 = .ok (.goto (-42), 3) := by decide +kernel
theorem dX6_goesThrough_56 : decode cX6_goesThrough 56 = .ok (.iload_n 2, 1) := by decide +kernel
theorem dX6_goesThrough_57 : decode cX6_goesThrough 57 = .ok (.ireturn, 1) := by decide +kernel
theorem dX6_does_0 : decode cX6_does 0 = .ok (.aload_n 0, 1) := by decide +kernel
theorem dX6_does_1 : decode cX6_does 1 = .ok (.iconst 0, 1) := by decide +kernel
theorem dX6_does_2 : decode cX6_does 2 = .ok (.invokevirtual 148, 3) := by decide +kernel
theorem dX6_does_5 : decode cX6_does 5 = .ok (.ifCond .ge 11, 3) := by decide +kernel
theorem dX6_does_8 : decode cX6_does 8 = .ok (.bipush (-10), 2) := by decide +kernel
theorem dX6_does_10 : decode cX6_does 10 = .ok (.aload_n 0, 1) := by decide +kernel
theorem dX6_does_11 : decode cX6_does 11 = .ok (.getfield 118, 3) := by decide +kernel
theorem dX6_does_14 : decode cX6_does 14 = .ok (.isub, 1) := by decide +kernel
theorem dX6_does_15 : decode cX6_does 15 = .ok (.ireturn, 1) := by decide +kernel
theorem dX6_does_16 : decode cX6_does 16 = .ok (.aload_n 0, 1) := by decide +kernel
theorem dX6_does_17 : decode cX6_does 17 = .ok (.invokevirtual 72, 3) := by decide +kernel
theorem dX6_does_20 : decode cX6_does 20 = .ok (.aload_n 0, 1) := by decide +kernel
theorem dX6_does_21 : decode cX6_does 21 = .ok (.iconst 1, 1) := by decide +kernel
theorem dX6_does_22 : decode cX6_does 22 = .ok (.invokevirtual 148, 3) := by decide +kernel
theorem dX6_does_25 : decode cX6_does 25 = .ok (.ireturn, 1) := by decide +kernel
theorem dX6_isLike_0 : decode cX6_isLike 0 = .ok (.iconst 1, 1) := by decide +kernel
theorem dX6_isLike_1 : decode cX6_isLike 1 = .ok (.istore_n 3, 1) := by decide +kernel
theorem dX6_isLike_2 : decode cX6_isLike 2 = .ok (.iconst 0, 1) := by decide +kernel
theorem dX6_isLike_3 : decode cX6_isLike 3 = .ok (.istore 4, 2) := by decide +kernel
theorem dX6_isLike_5 : decode cX6_isLike 5 = .ok (.iload 4, 2) := by decide +kernel
theorem dX6_isLike_7 : decode cX6_isLike 7 = .ok (.iconst 4, 1) := by decide +kernel
theorem dX6_isLike_8 : decode cX6_isLike 8 = .ok (.if_icmp .ge 45, 3) := by decide +kernel
theorem dX6_isLike_11 : decode cX6_isLike 11 = .ok (.iload_n 3, 1) := by decide +kernel
theorem dX6_isLike_12 : decode cX6_isLike 12 = .ok (.ifCond .eq 33, 3) := by decide +kernel
theorem dX6_isLike_15 : decode cX6_isLike 15 = .ok (.aload_n 0, 1) := by decide +kernel
theorem dX6_isLike_16 : decode cX6_isLike 16 = .ok (.iload 4, 2) := by decide +kernel
theorem dX6_isLike_18 : decode cX6_isLike 18 = .ok (.invokevirtual 61, 3) := by decide +kernel
theorem dX6_isLike_21 : decode cX6_isLike 21 = .ok (.ifCond .eq 20, 3) := by decide +kernel
theorem dX6_isLike_24 : decode cX6_isLike 24 = .ok (.aload_n 0, 1) := by decide +kernel
theorem dX6_isLike_25 : decode cX6_isLike 25 = .ok (.iload 4, 2) := by decide +kernel
theorem dX6_isLike_27 : decode cX6_isLike 27 = .ok (.iload_n 1, 1) := by decide +kernel
theorem dX6_isLike_28 : decode cX6_isLike 28 = .ok (.invokevirtual 79, 3) := by decide +kernel
theorem dX6_isLike_31 : decode cX6_isLike 31 = .ok (.aload_n 0, 1) := by decide +kernel
theorem dX6_isLike_32 : decode cX6_isLike 32 = .ok (.iload 4, 2) := by decide +kernel
theorem dX6_isLike_34 : decode cX6_isLike 34 = .ok (.iload_n 2, 1) := by decide +kernel
theorem dX6_isLike_35 : decode cX6_isLike 35 = .ok (.invokevirtual 79, 3) := by decide +kernel
theorem dX6_isLike_38 : decode cX6_isLike 38 = .ok (.if_icmp .ne 7, 3) := by decide +kernel
theorem dX6_isLike_41 : decode cX6_isLike 41 = .ok (.iconst 1, 1) := by decide +kernel
theorem dX6_isLike_42 : decode cX6_isLike 42 = .ok (.goto 4, 3) := by decide +kernel
theorem dX6_isLike_45 : decode cX6_isLike 45 = .ok (.iconst 0, 1) := by decide +kernel
theorem dX6_isLike_46 : decode cX6_isLike 46 = .ok (.istore_n 3, 1) := by decide +kernel
theorem dX6_isLike_47 : decode cX6_isLike 47 = .ok (.iinc 4 1, 3) := by decide +kernel
theorem dX6_isLike_50 : decode cX6_isLike 50 = .ok (.goto (-45), 3) := by decide +kernel
theorem dX6_isLike_53 : decode cX6_isLike 53 = .ok (.iload_n 3, 1) := by decide +kernel
theorem dX6_isLike_54 : decode cX6_isLike 54 = .ok (.ireturn, 1) := by decide +kernel
theorem dX6_finds_0 : decode cX6_finds 0 = .ok (.aload_n 0, 1) := by decide +kernel
theorem dX6_finds_1 : decode cX6_finds 1 = .ok (.iconst 0, 1) := by decide +kernel
theorem dX6_finds_2 : decode cX6_finds 2 = .ok (.putfield 152, 3) := by decide +kernel
theorem dX6_finds_5 : decode cX6_finds 5 = .ok (.iconst 0, 1) := by decide +kernel
theorem dX6_finds_6 : decode cX6_finds 6 = .ok (.istore_n 1, 1) := by decide +kernel
theorem dX6_finds_7 : decode cX6_finds 7 = .ok (.iload_n 1, 1) := by decide +kernel
theorem dX6_finds_8 : decode cX6_finds 8 = .ok (.bipush 24, 2) := by decide +kernel
theorem dX6_finds_10 : decode cX6_finds 10 = .ok (.if_icmp .ge 101, 3) := by decide +kernel
theorem dX6_finds_13 : decode cX6_finds 13 = .ok (.aload_n 0, 1) := by decide +kernel
theorem dX6_finds_14 : decode cX6_finds 14 = .ok (.getfield 32, 3) := by decide +kernel
theorem dX6_finds_17 : decode cX6_finds 17 = .ok (.iload_n 1, 1) := by decide +kernel
theorem dX6_finds_18 : decode cX6_finds 18 = .ok (.iconst (-1), 1) := by decide +kernel
theorem dX6_finds_19 : decode cX6_finds 19 = .ok (.iastore, 1) := by decide +kernel
theorem dX6_finds_20 : decode cX6_finds 20 = .ok (.iconst 0, 1) := by decide +kernel
theorem dX6_finds_21 : decode cX6_finds 21 = .ok (.istore_n 2, 1) := by decide +kernel
theorem dX6_finds_22 : decode cX6_finds 22 = .ok (.iload_n 2, 1) := by decide +kernel
theorem dX6_finds_23 : decode cX6_finds 23 = .ok (.aload_n 0, 1) := by decide +kernel
theorem dX6_finds_24 : decode cX6_finds 24 = .ok (.getfield 152, 3) := by decide +kernel
theorem dX6_finds_27 : decode cX6_finds 27 = .ok (.if_icmp .ge 39, 3) := by decide +kernel
theorem dX6_finds_30 : decode cX6_finds 30 = .ok (.aload_n 0, 1) := by decide +kernel
theorem dX6_finds_31 : decode cX6_finds 31 = .ok (.getfield 32, 3) := by decide +kernel
theorem dX6_finds_34 : decode cX6_finds 34 = .ok (.iload_n 1, 1) := by decide +kernel
theorem dX6_finds_35 : decode cX6_finds 35 = .ok (.aload_n 0, 1) := by decide +kernel
theorem dX6_finds_36 : decode cX6_finds 36 = .ok (.iload_n 1, 1) := by decide +kernel
theorem dX6_finds_37 : decode cX6_finds 37 = .ok (.aload_n 0, 1) := by decide +kernel
theorem dX6_finds_38 : decode cX6_finds 38 = .ok (.getfield 35, 3) := by decide +kernel
theorem dX6_finds_41 : decode cX6_finds 41 = .ok (.iload_n 2, 1) := by decide +kernel
theorem dX6_finds_42 : decode cX6_finds 42 = .ok (.iaload, 1) := by decide +kernel
theorem dX6_finds_43 : decode cX6_finds 43 = .ok (.invokevirtual 155, 3) := by decide +kernel
theorem dX6_finds_46 : decode cX6_finds 46 = .ok (.ifCond .eq 7, 3) := by decide +kernel
theorem dX6_finds_49 : decode cX6_finds 49 = .ok (.iload_n 2, 1) := by decide +kernel
theorem dX6_finds_50 : decode cX6_finds 50 = .ok (.goto 9, 3) := by decide +kernel
theorem dX6_finds_53 : decode cX6_finds 53 = .ok (.aload_n 0, 1) := by decide +kernel
theorem dX6_finds_54 : decode cX6_finds 54 = .ok (.getfield 32, 3) := by decide +kernel
theorem dX6_finds_57 : decode cX6_finds 57 = .ok (.iload_n 1, 1) := by decide +kernel
theorem dX6_finds_58 : decode cX6_finds 58 = .ok (.iaload, 1) := by decide +kernel
theorem dX6_finds_59 : decode cX6_finds 59 = .ok (.iastore, 1) := by decide +kernel
theorem dX6_finds_60 : decode cX6_finds 60 = .ok (.iinc 2 1, 3) := by decide +kernel
theorem dX6_finds_63 : decode cX6_finds 63 = .ok (.goto (-41), 3) := by decide +kernel
theorem dX6_finds_66 : decode cX6_finds 66 = .ok (.aload_n 0, 1) := by decide +kernel
theorem dX6_finds_67 : decode cX6_finds 67 = .ok (.getfield 32, 3) := by decide +kernel
theorem dX6_finds_70 : decode cX6_finds 70 = .ok (.iload_n 1, 1) := by decide +kernel
theorem dX6_finds_71 : decode cX6_finds 71 = .ok (.iaload, 1) := by decide +kernel
theorem dX6_finds_72 : decode cX6_finds 72 = .ok (.ifCond .ge 33, 3) := by decide +kernel
theorem dX6_finds_75 : decode cX6_finds 75 = .ok (.aload_n 0, 1) := by decide +kernel
theorem dX6_finds_76 : decode cX6_finds 76 = .ok (.getfield 32, 3) := by decide +kernel
theorem dX6_finds_79 : decode cX6_finds 79 = .ok (.iload_n 1, 1) := by decide +kernel
theorem dX6_finds_80 : decode cX6_finds 80 = .ok (.aload_n 0, 1) := by decide +kernel
theorem dX6_finds_81 : decode cX6_finds 81 = .ok (.getfield 152, 3) := by decide +kernel
theorem dX6_finds_84 : decode cX6_finds 84 = .ok (.iastore, 1) := by decide +kernel
theorem dX6_finds_85 : decode cX6_finds 85 = .ok (.aload_n 0, 1) := by decide +kernel
theorem dX6_finds_86 : decode cX6_finds 86 = .ok (.getfield 35, 3) := by decide +kernel
theorem dX6_finds_89 : decode cX6_finds 89 = .ok (.aload_n 0, 1) := by decide +kernel
theorem dX6_finds_90 : decode cX6_finds 90 = .ok (.getfield 152, 3) := by decide +kernel
theorem dX6_finds_93 : decode cX6_finds 93 = .ok (.iload_n 1, 1) := by decide +kernel
theorem dX6_finds_94 : decode cX6_finds 94 = .ok (.iastore, 1) := by decide +kernel
theorem dX6_finds_95 : decode cX6_finds 95 = .ok (.aload_n 0, 1) := by decide +kernel
theorem dX6_finds_96 : decode cX6_finds 96 = .ok (.dup, 1) := by decide +kernel
theorem dX6_finds_97 : decode cX6_finds 97 = .ok (.getfield 152, 3) := by decide +kernel
theorem dX6_finds_100 : decode cX6_finds 100 = .ok (.iconst 1, 1) := by decide +kernel
theorem dX6_finds_101 : decode cX6_finds 101 = .ok (.iadd, 1) := by decide +kernel
theorem dX6_finds_102 : decode cX6_finds 102 = .ok (.putfield 152, 3) := by decide +kernel
theorem dX6_finds_105 : decode cX6_finds 105 = .ok (.iinc 1 1, 3) := by decide +kernel
theorem dX6_finds_108 : decode cX6_finds 108 = .ok (.goto (-101), 3) := by decide +kernel
theorem dX6_finds_111 : decode cX6_finds 111 = .ok (.return_, 1) := by decide +kernel
theorem dX6_isStyle_0 : decode cX6_isStyle 0 = .ok (.aload_n 0, 1) := by decide +kernel
theorem dX6_isStyle_1 : decode cX6_isStyle 1 = .ok (.invokevirtual 112, 3) := by decide +kernel
theorem dX6_isStyle_4 : decode cX6_isStyle 4 = .ok (.iload_n 1, 1) := by decide +kernel
theorem dX6_isStyle_5 : decode cX6_isStyle 5 = .ok (.iconst 0, 1) := by decide +kernel
theorem dX6_isStyle_6 : decode cX6_isStyle 6 = .ok (.aload_n 0, 1) := by decide +kernel
theorem dX6_isStyle_7 : decode cX6_isStyle 7 = .ok (.getfield 152, 3) := by decide +kernel
theorem dX6_isStyle_10 : decode cX6_isStyle 10 = .ok (.iconst 1, 1) := by decide +kernel
theorem dX6_isStyle_11 : decode cX6_isStyle 11 = .ok (.isub, 1) := by decide +kernel
theorem dX6_isStyle_12 : decode cX6_isStyle 12 = .ok (.invokestatic 53, 3) := by decide +kernel
theorem dX6_isStyle_15 : decode cX6_isStyle 15 = .ok (.ireturn, 1) := by decide +kernel
theorem dX6_styles_0 : decode cX6_styles 0 = .ok (.aload_n 0, 1) := by decide +kernel
theorem dX6_styles_1 : decode cX6_styles 1 = .ok (.invokevirtual 112, 3) := by decide +kernel
theorem dX6_styles_4 : decode cX6_styles 4 = .ok (.aload_n 0, 1) := by decide +kernel
theorem dX6_styles_5 : decode cX6_styles 5 = .ok (.getfield 152, 3) := by decide +kernel
theorem dX6_styles_8 : decode cX6_styles 8 = .ok (.ireturn, 1) := by decide +kernel
theorem dX6_votersOf_0 : decode cX6_votersOf 0 = .ok (.iconst 0, 1) := by decide +kernel
theorem dX6_votersOf_1 : decode cX6_votersOf 1 = .ok (.istore_n 2, 1) := by decide +kernel
theorem dX6_votersOf_2 : decode cX6_votersOf 2 = .ok (.iconst 0, 1) := by decide +kernel
theorem dX6_votersOf_3 : decode cX6_votersOf 3 = .ok (.istore_n 3, 1) := by decide +kernel
theorem dX6_votersOf_4 : decode cX6_votersOf 4 = .ok (.iload_n 3, 1) := by decide +kernel
theorem dX6_votersOf_5 : decode cX6_votersOf 5 = .ok (.bipush 24, 2) := by decide +kernel
theorem dX6_votersOf_7 : decode cX6_votersOf 7 = .ok (.if_icmp .ge 32, 3) := by decide +kernel
theorem dX6_votersOf_10 : decode cX6_votersOf 10 = .ok (.iload_n 2, 1) := by decide +kernel
theorem dX6_votersOf_11 : decode cX6_votersOf 11 = .ok (.aload_n 0, 1) := by decide +kernel
theorem dX6_votersOf_12 : decode cX6_votersOf 12 = .ok (.getfield 32, 3) := by decide +kernel
theorem dX6_votersOf_15 : decode cX6_votersOf 15 = .ok (.iload_n 3, 1) := by decide +kernel
theorem dX6_votersOf_16 : decode cX6_votersOf 16 = .ok (.iaload, 1) := by decide +kernel
theorem dX6_votersOf_17 : decode cX6_votersOf 17 = .ok (.iload_n 1, 1) := by decide +kernel
theorem dX6_votersOf_18 : decode cX6_votersOf 18 = .ok (.if_icmp .ne 12, 3) := by decide +kernel
theorem dX6_votersOf_21 : decode cX6_votersOf 21 = .ok (.aload_n 0, 1) := by decide +kernel
theorem dX6_votersOf_22 : decode cX6_votersOf 22 = .ok (.getfield 7, 3) := by decide +kernel
theorem dX6_votersOf_25 : decode cX6_votersOf 25 = .ok (.iload_n 3, 1) := by decide +kernel
theorem dX6_votersOf_26 : decode cX6_votersOf 26 = .ok (.iaload, 1) := by decide +kernel
theorem dX6_votersOf_27 : decode cX6_votersOf 27 = .ok (.goto 4, 3) := by decide +kernel
theorem dX6_votersOf_30 : decode cX6_votersOf 30 = .ok (.iconst 0, 1) := by decide +kernel
theorem dX6_votersOf_31 : decode cX6_votersOf 31 = .ok (.iadd, 1) := by decide +kernel
theorem dX6_votersOf_32 : decode cX6_votersOf 32 = .ok (.istore_n 2, 1) := by decide +kernel
theorem dX6_votersOf_33 : decode cX6_votersOf 33 = .ok (.iinc 3 1, 3) := by decide +kernel
theorem dX6_votersOf_36 : decode cX6_votersOf 36 = .ok (.goto (-32), 3) := by decide +kernel
theorem dX6_votersOf_39 : decode cX6_votersOf 39 = .ok (.iload_n 2, 1) := by decide +kernel
theorem dX6_votersOf_40 : decode cX6_votersOf 40 = .ok (.ireturn, 1) := by decide +kernel
theorem dX6_blocksOf_0 : decode cX6_blocksOf 0 = .ok (.iconst 0, 1) := by decide +kernel
theorem dX6_blocksOf_1 : decode cX6_blocksOf 1 = .ok (.istore_n 2, 1) := by decide +kernel
theorem dX6_blocksOf_2 : decode cX6_blocksOf 2 = .ok (.iconst 0, 1) := by decide +kernel
theorem dX6_blocksOf_3 : decode cX6_blocksOf 3 = .ok (.istore_n 3, 1) := by decide +kernel
theorem dX6_blocksOf_4 : decode cX6_blocksOf 4 = .ok (.iload_n 3, 1) := by decide +kernel
theorem dX6_blocksOf_5 : decode cX6_blocksOf 5 = .ok (.bipush 24, 2) := by decide +kernel
theorem dX6_blocksOf_7 : decode cX6_blocksOf 7 = .ok (.if_icmp .ge 27, 3) := by decide +kernel
theorem dX6_blocksOf_10 : decode cX6_blocksOf 10 = .ok (.iload_n 2, 1) := by decide +kernel
theorem dX6_blocksOf_11 : decode cX6_blocksOf 11 = .ok (.aload_n 0, 1) := by decide +kernel
theorem dX6_blocksOf_12 : decode cX6_blocksOf 12 = .ok (.getfield 32, 3) := by decide +kernel
theorem dX6_blocksOf_15 : decode cX6_blocksOf 15 = .ok (.iload_n 3, 1) := by decide +kernel
theorem dX6_blocksOf_16 : decode cX6_blocksOf 16 = .ok (.iaload, 1) := by decide +kernel
theorem dX6_blocksOf_17 : decode cX6_blocksOf 17 = .ok (.iload_n 1, 1) := by decide +kernel
theorem dX6_blocksOf_18 : decode cX6_blocksOf 18 = .ok (.if_icmp .ne 7, 3) := by decide +kernel
theorem dX6_blocksOf_21 : decode cX6_blocksOf 21 = .ok (.iconst 1, 1) := by decide +kernel
theorem dX6_blocksOf_22 : decode cX6_blocksOf 22 = .ok (.goto 4, 3) := by decide +kernel
theorem dX6_blocksOf_25 : decode cX6_blocksOf 25 = .ok (.iconst 0, 1) := by decide +kernel
theorem dX6_blocksOf_26 : decode cX6_blocksOf 26 = .ok (.iadd, 1) := by decide +kernel
theorem dX6_blocksOf_27 : decode cX6_blocksOf 27 = .ok (.istore_n 2, 1) := by decide +kernel
theorem dX6_blocksOf_28 : decode cX6_blocksOf 28 = .ok (.iinc 3 1, 3) := by decide +kernel
theorem dX6_blocksOf_31 : decode cX6_blocksOf 31 = .ok (.goto (-27), 3) := by decide +kernel
theorem dX6_blocksOf_34 : decode cX6_blocksOf 34 = .ok (.iload_n 2, 1) := by decide +kernel
theorem dX6_blocksOf_35 : decode cX6_blocksOf 35 = .ok (.ireturn, 1) := by decide +kernel
theorem dX6_isBeside_0 : decode cX6_isBeside 0 = .ok (.iload_n 0, 1) := by decide +kernel
theorem dX6_isBeside_1 : decode cX6_isBeside 1 = .ok (.iconst 4, 1) := by decide +kernel
theorem dX6_isBeside_2 : decode cX6_isBeside 2 = .ok (.iadd, 1) := by decide +kernel
theorem dX6_isBeside_3 : decode cX6_isBeside 3 = .ok (.iload_n 1, 1) := by decide +kernel
theorem dX6_isBeside_4 : decode cX6_isBeside 4 = .ok (.if_icmp .eq 33, 3) := by decide +kernel
theorem dX6_isBeside_7 : decode cX6_isBeside 7 = .ok (.iload_n 1, 1) := by decide +kernel
theorem dX6_isBeside_8 : decode cX6_isBeside 8 = .ok (.iconst 4, 1) := by decide +kernel
theorem dX6_isBeside_9 : decode cX6_isBeside 9 = .ok (.iadd, 1) := by decide +kernel
theorem dX6_isBeside_10 : decode cX6_isBeside 10 = .ok (.iload_n 0, 1) := by decide +kernel
theorem dX6_isBeside_11 : decode cX6_isBeside 11 = .ok (.if_icmp .eq 26, 3) := by decide +kernel
theorem dX6_isBeside_14 : decode cX6_isBeside 14 = .ok (.iload_n 0, 1) := by decide +kernel
theorem dX6_isBeside_15 : decode cX6_isBeside 15 = .ok (.iconst 4, 1) := by decide +kernel
theorem dX6_isBeside_16 : decode cX6_isBeside 16 = .ok (.idiv, 1) := by decide +kernel
theorem dX6_isBeside_17 : decode cX6_isBeside 17 = .ok (.iload_n 1, 1) := by decide +kernel
theorem dX6_isBeside_18 : decode cX6_isBeside 18 = .ok (.iconst 4, 1) := by decide +kernel
theorem dX6_isBeside_19 : decode cX6_isBeside 19 = .ok (.idiv, 1) := by decide +kernel
theorem dX6_isBeside_20 : decode cX6_isBeside 20 = .ok (.if_icmp .ne 21, 3) := by decide +kernel
theorem dX6_isBeside_23 : decode cX6_isBeside 23 = .ok (.iload_n 0, 1) := by decide +kernel
theorem dX6_isBeside_24 : decode cX6_isBeside 24 = .ok (.iconst 1, 1) := by decide +kernel
theorem dX6_isBeside_25 : decode cX6_isBeside 25 = .ok (.iadd, 1) := by decide +kernel
theorem dX6_isBeside_26 : decode cX6_isBeside 26 = .ok (.iload_n 1, 1) := by decide +kernel
theorem dX6_isBeside_27 : decode cX6_isBeside 27 = .ok (.if_icmp .eq 10, 3) := by decide +kernel
theorem dX6_isBeside_30 : decode cX6_isBeside 30 = .ok (.iload_n 1, 1) := by decide +kernel
theorem dX6_isBeside_31 : decode cX6_isBeside 31 = .ok (.iconst 1, 1) := by decide +kernel
theorem dX6_isBeside_32 : decode cX6_isBeside 32 = .ok (.iadd, 1) := by decide +kernel
theorem dX6_isBeside_33 : decode cX6_isBeside 33 = .ok (.iload_n 0, 1) := by decide +kernel
theorem dX6_isBeside_34 : decode cX6_isBeside 34 = .ok (.if_icmp .ne 7, 3) := by decide +kernel
theorem dX6_isBeside_37 : decode cX6_isBeside 37 = .ok (.iconst 1, 1) := by decide +kernel
theorem dX6_isBeside_38 : decode cX6_isBeside 38 = .ok (.goto 4, 3) := by decide +kernel
theorem dX6_isBeside_41 : decode cX6_isBeside 41 = .ok (.iconst 0, 1) := by decide +kernel
theorem dX6_isBeside_42 : decode cX6_isBeside 42 = .ok (.ireturn, 1) := by decide +kernel
theorem dX6_partsOf_0 : decode cX6_partsOf 0 = .ok (.iconst 0, 1) := by decide +kernel
theorem dX6_partsOf_1 : decode cX6_partsOf 1 = .ok (.istore_n 2, 1) := by decide +kernel
theorem dX6_partsOf_2 : decode cX6_partsOf 2 = .ok (.iconst 0, 1) := by decide +kernel
theorem dX6_partsOf_3 : decode cX6_partsOf 3 = .ok (.istore_n 3, 1) := by decide +kernel
theorem dX6_partsOf_4 : decode cX6_partsOf 4 = .ok (.iload_n 3, 1) := by decide +kernel
theorem dX6_partsOf_5 : decode cX6_partsOf 5 = .ok (.bipush 24, 2) := by decide +kernel
theorem dX6_partsOf_7 : decode cX6_partsOf 7 = .ok (.if_icmp .ge 16, 3) := by decide +kernel
theorem dX6_partsOf_10 : decode cX6_partsOf 10 = .ok (.aload_n 0, 1) := by decide +kernel
theorem dX6_partsOf_11 : decode cX6_partsOf 11 = .ok (.getfield 38, 3) := by decide +kernel
theorem dX6_partsOf_14 : decode cX6_partsOf 14 = .ok (.iload_n 3, 1) := by decide +kernel
theorem dX6_partsOf_15 : decode cX6_partsOf 15 = .ok (.iconst 0, 1) := by decide +kernel
theorem dX6_partsOf_16 : decode cX6_partsOf 16 = .ok (.iastore, 1) := by decide +kernel
theorem dX6_partsOf_17 : decode cX6_partsOf 17 = .ok (.iinc 3 1, 3) := by decide +kernel
theorem dX6_partsOf_20 : decode cX6_partsOf 20 = .ok (.goto (-16), 3) := by decide +kernel
theorem dX6_partsOf_23 : decode cX6_partsOf 23 = .ok (.iconst 0, 1) := by decide +kernel
theorem dX6_partsOf_24 : decode cX6_partsOf 24 = .ok (.istore_n 3, 1) := by decide +kernel
theorem dX6_partsOf_25 : decode cX6_partsOf 25 = .ok (.iload_n 3, 1) := by decide +kernel
theorem dX6_partsOf_26 : decode cX6_partsOf 26 = .ok (.bipush 24, 2) := by decide +kernel
theorem dX6_partsOf_28 : decode cX6_partsOf 28 = .ok (.if_icmp .ge 140, 3) := by decide +kernel
theorem dX6_partsOf_31 : decode cX6_partsOf 31 = .ok (.aload_n 0, 1) := by decide +kernel
theorem dX6_partsOf_32 : decode cX6_partsOf 32 = .ok (.getfield 32, 3) := by decide +kernel
theorem dX6_partsOf_35 : decode cX6_partsOf 35 = .ok (.iload_n 3, 1) := by decide +kernel
theorem dX6_partsOf_36 : decode cX6_partsOf 36 = .ok (.iaload, 1) := by decide +kernel
theorem dX6_partsOf_37 : decode cX6_partsOf 37 = .ok (.iload_n 1, 1) := by decide +kernel
theorem dX6_partsOf_38 : decode cX6_partsOf 38 = .ok (.if_icmp .ne 124, 3) := by decide +kernel
theorem dX6_partsOf_41 : decode cX6_partsOf 41 = .ok (.aload_n 0, 1) := by decide +kernel
theorem dX6_partsOf_42 : decode cX6_partsOf 42 = .ok (.getfield 38, 3) := by decide +kernel
theorem dX6_partsOf_45 : decode cX6_partsOf 45 = .ok (.iload_n 3, 1) := by decide +kernel
theorem dX6_partsOf_46 : decode cX6_partsOf 46 = .ok (.iaload, 1) := by decide +kernel
theorem dX6_partsOf_47 : decode cX6_partsOf 47 = .ok (.ifCond .ne 115, 3) := by decide +kernel
theorem dX6_partsOf_50 : decode cX6_partsOf 50 = .ok (.iinc 2 1, 3) := by decide +kernel
theorem dX6_partsOf_53 : decode cX6_partsOf 53 = .ok (.aload_n 0, 1) := by decide +kernel
theorem dX6_partsOf_54 : decode cX6_partsOf 54 = .ok (.getfield 38, 3) := by decide +kernel
theorem dX6_partsOf_57 : decode cX6_partsOf 57 = .ok (.iload_n 3, 1) := by decide +kernel
theorem dX6_partsOf_58 : decode cX6_partsOf 58 = .ok (.iload_n 2, 1) := by decide +kernel
theorem dX6_partsOf_59 : decode cX6_partsOf 59 = .ok (.iastore, 1) := by decide +kernel
theorem dX6_partsOf_60 : decode cX6_partsOf 60 = .ok (.iconst 0, 1) := by decide +kernel
theorem dX6_partsOf_61 : decode cX6_partsOf 61 = .ok (.istore 4, 2) := by decide +kernel
theorem dX6_partsOf_63 : decode cX6_partsOf 63 = .ok (.iload 4, 2) := by decide +kernel
theorem dX6_partsOf_65 : decode cX6_partsOf 65 = .ok (.bipush 24, 2) := by decide +kernel
theorem dX6_partsOf_67 : decode cX6_partsOf 67 = .ok (.if_icmp .ge 95, 3) := by decide +kernel
theorem dX6_partsOf_70 : decode cX6_partsOf 70 = .ok (.iconst 0, 1) := by decide +kernel
theorem dX6_partsOf_71 : decode cX6_partsOf 71 = .ok (.istore 5, 2) := by decide +kernel
theorem dX6_partsOf_73 : decode cX6_partsOf 73 = .ok (.iload 5, 2) := by decide +kernel
theorem dX6_partsOf_75 : decode cX6_partsOf 75 = .ok (.bipush 24, 2) := by decide +kernel
theorem dX6_partsOf_77 : decode cX6_partsOf 77 = .ok (.if_icmp .ge 79, 3) := by decide +kernel
theorem dX6_partsOf_80 : decode cX6_partsOf 80 = .ok (.iconst 0, 1) := by decide +kernel
theorem dX6_partsOf_81 : decode cX6_partsOf 81 = .ok (.istore 6, 2) := by decide +kernel
theorem dX6_partsOf_83 : decode cX6_partsOf 83 = .ok (.iload 6, 2) := by decide +kernel
theorem dX6_partsOf_85 : decode cX6_partsOf 85 = .ok (.bipush 24, 2) := by decide +kernel
theorem dX6_partsOf_87 : decode cX6_partsOf 87 = .ok (.if_icmp .ge 63, 3) := by decide +kernel
theorem dX6_partsOf_90 : decode cX6_partsOf 90 = .ok (.aload_n 0, 1) := by decide +kernel
theorem dX6_partsOf_91 : decode cX6_partsOf 91 = .ok (.getfield 32, 3) := by decide +kernel
theorem dX6_partsOf_94 : decode cX6_partsOf 94 = .ok (.iload 5, 2) := by decide +kernel
theorem dX6_partsOf_96 : decode cX6_partsOf 96 = .ok (.iaload, 1) := by decide +kernel
theorem dX6_partsOf_97 : decode cX6_partsOf 97 = .ok (.iload_n 1, 1) := by decide +kernel
theorem dX6_partsOf_98 : decode cX6_partsOf 98 = .ok (.if_icmp .ne 52, 3) := by decide +kernel
theorem dX6_partsOf_101 : decode cX6_partsOf 101 = .ok (.aload_n 0, 1) := by decide +kernel
theorem dX6_partsOf_102 : decode cX6_partsOf 102 = .ok (.getfield 38, 3) := by decide +kernel
theorem dX6_partsOf_105 : decode cX6_partsOf 105 = .ok (.iload 5, 2) := by decide +kernel
theorem dX6_partsOf_107 : decode cX6_partsOf 107 = .ok (.iaload, 1) := by decide +kernel
theorem dX6_partsOf_108 : decode cX6_partsOf 108 = .ok (.ifCond .ne 42, 3) := by decide +kernel
theorem dX6_partsOf_111 : decode cX6_partsOf 111 = .ok (.aload_n 0, 1) := by decide +kernel
theorem dX6_partsOf_112 : decode cX6_partsOf 112 = .ok (.getfield 38, 3) := by decide +kernel
theorem dX6_partsOf_115 : decode cX6_partsOf 115 = .ok (.iload 5, 2) := by decide +kernel
theorem dX6_partsOf_117 : decode cX6_partsOf 117 = .ok (.aload_n 0, 1) := by decide +kernel
theorem dX6_partsOf_118 : decode cX6_partsOf 118 = .ok (.getfield 38, 3) := by decide +kernel
theorem dX6_partsOf_121 : decode cX6_partsOf 121 = .ok (.iload 6, 2) := by decide +kernel
theorem dX6_partsOf_123 : decode cX6_partsOf 123 = .ok (.iaload, 1) := by decide +kernel
theorem dX6_partsOf_124 : decode cX6_partsOf 124 = .ok (.iload_n 2, 1) := by decide +kernel
theorem dX6_partsOf_125 : decode cX6_partsOf 125 = .ok (.if_icmp .ne 17, 3) := by decide +kernel
theorem dX6_partsOf_128 : decode cX6_partsOf 128 = .ok (.iload 5, 2) := by decide +kernel
theorem dX6_partsOf_130 : decode cX6_partsOf 130 = .ok (.iload 6, 2) := by decide +kernel
theorem dX6_partsOf_132 : decode cX6_partsOf 132 = .ok (.invokestatic 158, 3) := by decide +kernel
theorem dX6_partsOf_135 : decode cX6_partsOf 135 = .ok (.ifCond .eq 7, 3) := by decide +kernel
theorem dX6_partsOf_138 : decode cX6_partsOf 138 = .ok (.iload_n 2, 1) := by decide +kernel
theorem dX6_partsOf_139 : decode cX6_partsOf 139 = .ok (.goto 4, 3) := by decide +kernel
theorem dX6_partsOf_142 : decode cX6_partsOf 142 = .ok (.iconst 0, 1) := by decide +kernel
theorem dX6_partsOf_143 : decode cX6_partsOf 143 = .ok (.iastore, 1) := by decide +kernel
theorem dX6_partsOf_144 : decode cX6_partsOf 144 = .ok (.iinc 6 1, 3) := by decide +kernel
theorem dX6_partsOf_147 : decode cX6_partsOf 147 = .ok (.goto (-64), 3) := by decide +kernel
theorem dX6_partsOf_150 : decode cX6_partsOf 150 = .ok (.iinc 5 1, 3) := by decide +kernel
theorem dX6_partsOf_153 : decode cX6_partsOf 153 = .ok (.goto (-80), 3) := by decide +kernel
theorem dX6_partsOf_156 : decode cX6_partsOf 156 = .ok (.iinc 4 1, 3) := by decide +kernel
theorem dX6_partsOf_159 : decode cX6_partsOf 159 = .ok (.goto (-96), 3) := by decide +kernel
theorem dX6_partsOf_162 : decode cX6_partsOf 162 = .ok (.iinc 3 1, 3) := by decide +kernel
theorem dX6_partsOf_165 : decode cX6_partsOf 165 = .ok (.goto (-140), 3) := by decide +kernel
theorem dX6_partsOf_168 : decode cX6_partsOf 168 = .ok (.iload_n 2, 1) := by decide +kernel
theorem dX6_partsOf_169 : decode cX6_partsOf 169 = .ok (.ireturn, 1) := by decide +kernel
theorem dX6_contestsOn_0 : decode cX6_contestsOn 0 = .ok (.iconst 0, 1) := by decide +kernel
theorem dX6_contestsOn_1 : decode cX6_contestsOn 1 = .ok (.istore_n 1, 1) := by decide +kernel
theorem dX6_contestsOn_2 : decode cX6_contestsOn 2 = .ok (.iconst 0, 1) := by decide +kernel
theorem dX6_contestsOn_3 : decode cX6_contestsOn 3 = .ok (.istore_n 2, 1) := by decide +kernel
theorem dX6_contestsOn_4 : decode cX6_contestsOn 4 = .ok (.iload_n 2, 1) := by decide +kernel
theorem dX6_contestsOn_5 : decode cX6_contestsOn 5 = .ok (.iconst 4, 1) := by decide +kernel
theorem dX6_contestsOn_6 : decode cX6_contestsOn 6 = .ok (.if_icmp .ge 25, 3) := by decide +kernel
theorem dX6_contestsOn_9 : decode cX6_contestsOn 9 = .ok (.iload_n 1, 1) := by decide +kernel
theorem dX6_contestsOn_10 : decode cX6_contestsOn 10 = .ok (.aload_n 0, 1) := by decide +kernel
theorem dX6_contestsOn_11 : decode cX6_contestsOn 11 = .ok (.iload_n 2, 1) := by decide +kernel
theorem dX6_contestsOn_12 : decode cX6_contestsOn 12 = .ok (.invokevirtual 61, 3) := by decide +kernel
theorem dX6_contestsOn_15 : decode cX6_contestsOn 15 = .ok (.ifCond .eq 7, 3) := by decide +kernel
theorem dX6_contestsOn_18 : decode cX6_contestsOn 18 = .ok (.iconst 1, 1) := by decide +kernel
theorem dX6_contestsOn_19 : decode cX6_contestsOn 19 = .ok (.goto 4, 3) := by decide +kernel
theorem dX6_contestsOn_22 : decode cX6_contestsOn 22 = .ok (.iconst 0, 1) := by decide +kernel
theorem dX6_contestsOn_23 : decode cX6_contestsOn 23 = .ok (.iadd, 1) := by decide +kernel
theorem dX6_contestsOn_24 : decode cX6_contestsOn 24 = .ok (.istore_n 1, 1) := by decide +kernel
theorem dX6_contestsOn_25 : decode cX6_contestsOn 25 = .ok (.iinc 2 1, 3) := by decide +kernel
theorem dX6_contestsOn_28 : decode cX6_contestsOn 28 = .ok (.goto (-24), 3) := by decide +kernel
theorem dX6_contestsOn_31 : decode cX6_contestsOn 31 = .ok (.iload_n 1, 1) := by decide +kernel
theorem dX6_contestsOn_32 : decode cX6_contestsOn 32 = .ok (.ireturn, 1) := by decide +kernel
theorem dX6_style_0 : decode cX6_style 0 = .ok (.aload_n 0, 1) := by decide +kernel
theorem dX6_style_1 : decode cX6_style 1 = .ok (.iload_n 1, 1) := by decide +kernel
theorem dX6_style_2 : decode cX6_style 2 = .ok (.invokevirtual 161, 3) := by decide +kernel
theorem dX6_style_5 : decode cX6_style 5 = .ok (.ifCond .eq 12, 3) := by decide +kernel
theorem dX6_style_8 : decode cX6_style 8 = .ok (.iload_n 2, 1) := by decide +kernel
theorem dX6_style_9 : decode cX6_style 9 = .ok (.iconst 0, 1) := by decide +kernel
theorem dX6_style_10 : decode cX6_style 10 = .ok (.iconst 4, 1) := by decide +kernel
theorem dX6_style_11 : decode cX6_style 11 = .ok (.invokestatic 53, 3) := by decide +kernel
theorem dX6_style_14 : decode cX6_style 14 = .ok (.ifCond .ne 10, 3) := by decide +kernel
theorem dX6_style_17 : decode cX6_style 17 = .ok (.aload_n 0, 1) := by decide +kernel
theorem dX6_style_18 : decode cX6_style 18 = .ok (.bipush (-2), 2) := by decide +kernel
theorem dX6_style_20 : decode cX6_style 20 = .ok (.invokevirtual 68, 3) := by decide +kernel
theorem dX6_style_23 : decode cX6_style 23 = .ok (.ireturn, 1) := by decide +kernel
theorem dX6_style_24 : decode cX6_style 24 = .ok (.iload_n 2, 1) := by decide +kernel
theorem dX6_style_25 : decode cX6_style 25 = .ok (.tableswitch 54 0 3 #[31, 37, 43, 49], 31) := by decide +kernel
theorem dX6_style_56 : decode cX6_style 56 = .ok (.aload_n 0, 1) := by decide +kernel
theorem dX6_style_57 : decode cX6_style 57 = .ok (.iload_n 1, 1) := by decide +kernel
theorem dX6_style_58 : decode cX6_style 58 = .ok (.invokevirtual 164, 3) := by decide +kernel
theorem dX6_style_61 : decode cX6_style 61 = .ok (.ireturn, 1) := by decide +kernel
theorem dX6_style_62 : decode cX6_style 62 = .ok (.aload_n 0, 1) := by decide +kernel
theorem dX6_style_63 : decode cX6_style 63 = .ok (.iload_n 1, 1) := by decide +kernel
theorem dX6_style_64 : decode cX6_style 64 = .ok (.invokevirtual 167, 3) := by decide +kernel
theorem dX6_style_67 : decode cX6_style 67 = .ok (.ireturn, 1) := by decide +kernel
theorem dX6_style_68 : decode cX6_style 68 = .ok (.aload_n 0, 1) := by decide +kernel
theorem dX6_style_69 : decode cX6_style 69 = .ok (.iload_n 1, 1) := by decide +kernel
theorem dX6_style_70 : decode cX6_style 70 = .ok (.invokevirtual 170, 3) := by decide +kernel
theorem dX6_style_73 : decode cX6_style 73 = .ok (.ireturn, 1) := by decide +kernel
theorem dX6_style_74 : decode cX6_style 74 = .ok (.aload_n 0, 1) := by decide +kernel
theorem dX6_style_75 : decode cX6_style 75 = .ok (.invokevirtual 173, 3) := by decide +kernel
theorem dX6_style_78 : decode cX6_style 78 = .ok (.ireturn, 1) := by decide +kernel
theorem dX6_style_79 : decode cX6_style 79 = .ok (.aload_n 0, 1) := by decide +kernel
theorem dX6_style_80 : decode cX6_style 80 = .ok (.getfield 35, 3) := by decide +kernel
theorem dX6_style_83 : decode cX6_style 83 = .ok (.iload_n 1, 1) := by decide +kernel
theorem dX6_style_84 : decode cX6_style 84 = .ok (.iaload, 1) := by decide +kernel
theorem dX6_style_85 : decode cX6_style 85 = .ok (.ireturn, 1) := by decide +kernel
theorem dX6_without_0 : decode cX6_without 0 = .ok (.iload_n 1, 1) := by decide +kernel
theorem dX6_without_1 : decode cX6_without 1 = .ok (.invokestatic 65, 3) := by decide +kernel
theorem dX6_without_4 : decode cX6_without 4 = .ok (.ifCond .ne 10, 3) := by decide +kernel
theorem dX6_without_7 : decode cX6_without 7 = .ok (.aload_n 0, 1) := by decide +kernel
theorem dX6_without_8 : decode cX6_without 8 = .ok (.bipush (-2), 2) := by decide +kernel
theorem dX6_without_10 : decode cX6_without 10 = .ok (.invokevirtual 68, 3) := by decide +kernel
theorem dX6_without_13 : decode cX6_without 13 = .ok (.ireturn, 1) := by decide +kernel
theorem dX6_without_14 : decode cX6_without 14 = .ok (.aload_n 0, 1) := by decide +kernel
theorem dX6_without_15 : decode cX6_without 15 = .ok (.getfield 7, 3) := by decide +kernel
theorem dX6_without_18 : decode cX6_without 18 = .ok (.sipush 144, 3) := by decide +kernel
theorem dX6_without_21 : decode cX6_without 21 = .ok (.iaload, 1) := by decide +kernel
theorem dX6_without_22 : decode cX6_without 22 = .ok (.istore_n 2, 1) := by decide +kernel
theorem dX6_without_23 : decode cX6_without 23 = .ok (.aload_n 0, 1) := by decide +kernel
theorem dX6_without_24 : decode cX6_without 24 = .ok (.getfield 7, 3) := by decide +kernel
theorem dX6_without_27 : decode cX6_without 27 = .ok (.sipush 144, 3) := by decide +kernel
theorem dX6_without_30 : decode cX6_without 30 = .ok (.dup2, 1) := by decide +kernel
theorem dX6_without_31 : decode cX6_without 31 = .ok (.iaload, 1) := by decide +kernel
theorem dX6_without_32 : decode cX6_without 32 = .ok (.iconst 1, 1) := by decide +kernel
theorem dX6_without_33 : decode cX6_without 33 = .ok (.iload_n 1, 1) := by decide +kernel
theorem dX6_without_34 : decode cX6_without 34 = .ok (.ishl, 1) := by decide +kernel
theorem dX6_without_35 : decode cX6_without 35 = .ok (.ixor, 1) := by decide +kernel
theorem dX6_without_36 : decode cX6_without 36 = .ok (.iastore, 1) := by decide +kernel
theorem dX6_without_37 : decode cX6_without 37 = .ok (.aload_n 0, 1) := by decide +kernel
theorem dX6_without_38 : decode cX6_without 38 = .ok (.invokevirtual 112, 3) := by decide +kernel
theorem dX6_without_41 : decode cX6_without 41 = .ok (.aload_n 0, 1) := by decide +kernel
theorem dX6_without_42 : decode cX6_without 42 = .ok (.getfield 7, 3) := by decide +kernel
theorem dX6_without_45 : decode cX6_without 45 = .ok (.sipush 144, 3) := by decide +kernel
theorem dX6_without_48 : decode cX6_without 48 = .ok (.iload_n 2, 1) := by decide +kernel
theorem dX6_without_49 : decode cX6_without 49 = .ok (.iastore, 1) := by decide +kernel
theorem dX6_without_50 : decode cX6_without 50 = .ok (.aload_n 0, 1) := by decide +kernel
theorem dX6_without_51 : decode cX6_without 51 = .ok (.getfield 152, 3) := by decide +kernel
theorem dX6_without_54 : decode cX6_without 54 = .ok (.ireturn, 1) := by decide +kernel
theorem dX6_borderOf_0 : decode cX6_borderOf 0 = .ok (.aload_n 0, 1) := by decide +kernel
theorem dX6_borderOf_1 : decode cX6_borderOf 1 = .ok (.invokevirtual 112, 3) := by decide +kernel
theorem dX6_borderOf_4 : decode cX6_borderOf 4 = .ok (.iconst 0, 1) := by decide +kernel
theorem dX6_borderOf_5 : decode cX6_borderOf 5 = .ok (.istore_n 1, 1) := by decide +kernel
theorem dX6_borderOf_6 : decode cX6_borderOf 6 = .ok (.iconst 0, 1) := by decide +kernel
theorem dX6_borderOf_7 : decode cX6_borderOf 7 = .ok (.istore_n 2, 1) := by decide +kernel
theorem dX6_borderOf_8 : decode cX6_borderOf 8 = .ok (.iload_n 2, 1) := by decide +kernel
theorem dX6_borderOf_9 : decode cX6_borderOf 9 = .ok (.bipush 24, 2) := by decide +kernel
theorem dX6_borderOf_11 : decode cX6_borderOf 11 = .ok (.if_icmp .ge 56, 3) := by decide +kernel
theorem dX6_borderOf_14 : decode cX6_borderOf 14 = .ok (.iload_n 2, 1) := by decide +kernel
theorem dX6_borderOf_15 : decode cX6_borderOf 15 = .ok (.iconst 1, 1) := by decide +kernel
theorem dX6_borderOf_16 : decode cX6_borderOf 16 = .ok (.iadd, 1) := by decide +kernel
theorem dX6_borderOf_17 : decode cX6_borderOf 17 = .ok (.istore_n 3, 1) := by decide +kernel
theorem dX6_borderOf_18 : decode cX6_borderOf 18 = .ok (.iload_n 3, 1) := by decide +kernel
theorem dX6_borderOf_19 : decode cX6_borderOf 19 = .ok (.bipush 24, 2) := by decide +kernel
theorem dX6_borderOf_21 : decode cX6_borderOf 21 = .ok (.if_icmp .ge 40, 3) := by decide +kernel
theorem dX6_borderOf_24 : decode cX6_borderOf 24 = .ok (.iload_n 1, 1) := by decide +kernel
theorem dX6_borderOf_25 : decode cX6_borderOf 25 = .ok (.iload_n 2, 1) := by decide +kernel
theorem dX6_borderOf_26 : decode cX6_borderOf 26 = .ok (.iload_n 3, 1) := by decide +kernel
theorem dX6_borderOf_27 : decode cX6_borderOf 27 = .ok (.invokestatic 158, 3) := by decide +kernel
theorem dX6_borderOf_30 : decode cX6_borderOf 30 = .ok (.ifCond .eq 22, 3) := by decide +kernel
theorem dX6_borderOf_33 : decode cX6_borderOf 33 = .ok (.aload_n 0, 1) := by decide +kernel
theorem dX6_borderOf_34 : decode cX6_borderOf 34 = .ok (.getfield 32, 3) := by decide +kernel
theorem dX6_borderOf_37 : decode cX6_borderOf 37 = .ok (.iload_n 2, 1) := by decide +kernel
theorem dX6_borderOf_38 : decode cX6_borderOf 38 = .ok (.iaload, 1) := by decide +kernel
theorem dX6_borderOf_39 : decode cX6_borderOf 39 = .ok (.aload_n 0, 1) := by decide +kernel
theorem dX6_borderOf_40 : decode cX6_borderOf 40 = .ok (.getfield 32, 3) := by decide +kernel
theorem dX6_borderOf_43 : decode cX6_borderOf 43 = .ok (.iload_n 3, 1) := by decide +kernel
theorem dX6_borderOf_44 : decode cX6_borderOf 44 = .ok (.iaload, 1) := by decide +kernel
theorem dX6_borderOf_45 : decode cX6_borderOf 45 = .ok (.if_icmp .eq 7, 3) := by decide +kernel
theorem dX6_borderOf_48 : decode cX6_borderOf 48 = .ok (.iconst 1, 1) := by decide +kernel
theorem dX6_borderOf_49 : decode cX6_borderOf 49 = .ok (.goto 4, 3) := by decide +kernel
theorem dX6_borderOf_52 : decode cX6_borderOf 52 = .ok (.iconst 0, 1) := by decide +kernel
theorem dX6_borderOf_53 : decode cX6_borderOf 53 = .ok (.iadd, 1) := by decide +kernel
theorem dX6_borderOf_54 : decode cX6_borderOf 54 = .ok (.istore_n 1, 1) := by decide +kernel
theorem dX6_borderOf_55 : decode cX6_borderOf 55 = .ok (.iinc 3 1, 3) := by decide +kernel
theorem dX6_borderOf_58 : decode cX6_borderOf 58 = .ok (.goto (-40), 3) := by decide +kernel
theorem dX6_borderOf_61 : decode cX6_borderOf 61 = .ok (.iinc 2 1, 3) := by decide +kernel
theorem dX6_borderOf_64 : decode cX6_borderOf 64 = .ok (.goto (-56), 3) := by decide +kernel
theorem dX6_borderOf_67 : decode cX6_borderOf 67 = .ok (.iload_n 1, 1) := by decide +kernel
theorem dX6_borderOf_68 : decode cX6_borderOf 68 = .ok (.ireturn, 1) := by decide +kernel
theorem dX6_border_0 : decode cX6_border 0 = .ok (.aload_n 0, 1) := by decide +kernel
theorem dX6_border_1 : decode cX6_border 1 = .ok (.invokevirtual 176, 3) := by decide +kernel
theorem dX6_border_4 : decode cX6_border 4 = .ok (.ireturn, 1) := by decide +kernel
theorem dX6_beside_0 : decode cX6_beside 0 = .ok (.aload_n 0, 1) := by decide +kernel
theorem dX6_beside_1 : decode cX6_beside 1 = .ok (.iload_n 1, 1) := by decide +kernel
theorem dX6_beside_2 : decode cX6_beside 2 = .ok (.invokevirtual 161, 3) := by decide +kernel
theorem dX6_beside_5 : decode cX6_beside 5 = .ok (.ifCond .eq 16, 3) := by decide +kernel
theorem dX6_beside_8 : decode cX6_beside 8 = .ok (.aload_n 0, 1) := by decide +kernel
theorem dX6_beside_9 : decode cX6_beside 9 = .ok (.iload_n 2, 1) := by decide +kernel
theorem dX6_beside_10 : decode cX6_beside 10 = .ok (.invokevirtual 161, 3) := by decide +kernel
theorem dX6_beside_13 : decode cX6_beside 13 = .ok (.ifCond .eq 8, 3) := by decide +kernel
theorem dX6_beside_16 : decode cX6_beside 16 = .ok (.iload_n 1, 1) := by decide +kernel
theorem dX6_beside_17 : decode cX6_beside 17 = .ok (.iload_n 2, 1) := by decide +kernel
theorem dX6_beside_18 : decode cX6_beside 18 = .ok (.if_icmp .ne 10, 3) := by decide +kernel
theorem dX6_beside_21 : decode cX6_beside 21 = .ok (.aload_n 0, 1) := by decide +kernel
theorem dX6_beside_22 : decode cX6_beside 22 = .ok (.bipush (-2), 2) := by decide +kernel
theorem dX6_beside_24 : decode cX6_beside 24 = .ok (.invokevirtual 68, 3) := by decide +kernel
theorem dX6_beside_27 : decode cX6_beside 27 = .ok (.ireturn, 1) := by decide +kernel
theorem dX6_beside_28 : decode cX6_beside 28 = .ok (.iconst 0, 1) := by decide +kernel
theorem dX6_beside_29 : decode cX6_beside 29 = .ok (.istore_n 3, 1) := by decide +kernel
theorem dX6_beside_30 : decode cX6_beside 30 = .ok (.iconst 0, 1) := by decide +kernel
theorem dX6_beside_31 : decode cX6_beside 31 = .ok (.istore 4, 2) := by decide +kernel
theorem dX6_beside_33 : decode cX6_beside 33 = .ok (.iload 4, 2) := by decide +kernel
theorem dX6_beside_35 : decode cX6_beside 35 = .ok (.bipush 24, 2) := by decide +kernel
theorem dX6_beside_37 : decode cX6_beside 37 = .ok (.if_icmp .ge 65, 3) := by decide +kernel
theorem dX6_beside_40 : decode cX6_beside 40 = .ok (.iconst 0, 1) := by decide +kernel
theorem dX6_beside_41 : decode cX6_beside 41 = .ok (.istore 5, 2) := by decide +kernel
theorem dX6_beside_43 : decode cX6_beside 43 = .ok (.iload 5, 2) := by decide +kernel
theorem dX6_beside_45 : decode cX6_beside 45 = .ok (.bipush 24, 2) := by decide +kernel
theorem dX6_beside_47 : decode cX6_beside 47 = .ok (.if_icmp .ge 49, 3) := by decide +kernel
theorem dX6_beside_50 : decode cX6_beside 50 = .ok (.iload_n 3, 1) := by decide +kernel
theorem dX6_beside_51 : decode cX6_beside 51 = .ok (.iload 4, 2) := by decide +kernel
theorem dX6_beside_53 : decode cX6_beside 53 = .ok (.iload 5, 2) := by decide +kernel
theorem dX6_beside_55 : decode cX6_beside 55 = .ok (.invokestatic 158, 3) := by decide +kernel
theorem dX6_beside_58 : decode cX6_beside 58 = .ok (.ifCond .eq 29, 3) := by decide +kernel
theorem dX6_beside_61 : decode cX6_beside 61 = .ok (.aload_n 0, 1) := by decide +kernel
theorem dX6_beside_62 : decode cX6_beside 62 = .ok (.getfield 32, 3) := by decide +kernel
theorem dX6_beside_65 : decode cX6_beside 65 = .ok (.iload 4, 2) := by decide +kernel
theorem dX6_beside_67 : decode cX6_beside 67 = .ok (.iaload, 1) := by decide +kernel
theorem dX6_beside_68 : decode cX6_beside 68 = .ok (.iload_n 1, 1) := by decide +kernel
theorem dX6_beside_69 : decode cX6_beside 69 = .ok (.if_icmp .ne 18, 3) := by decide +kernel
theorem dX6_beside_72 : decode cX6_beside 72 = .ok (.aload_n 0, 1) := by decide +kernel
theorem dX6_beside_73 : decode cX6_beside 73 = .ok (.getfield 32, 3) := by decide +kernel
theorem dX6_beside_76 : decode cX6_beside 76 = .ok (.iload 5, 2) := by decide +kernel
theorem dX6_beside_78 : decode cX6_beside 78 = .ok (.iaload, 1) := by decide +kernel
theorem dX6_beside_79 : decode cX6_beside 79 = .ok (.iload_n 2, 1) := by decide +kernel
theorem dX6_beside_80 : decode cX6_beside 80 = .ok (.if_icmp .ne 7, 3) := by decide +kernel
theorem dX6_beside_83 : decode cX6_beside 83 = .ok (.iconst 1, 1) := by decide +kernel
theorem dX6_beside_84 : decode cX6_beside 84 = .ok (.goto 4, 3) := by decide +kernel
theorem dX6_beside_87 : decode cX6_beside 87 = .ok (.iconst 0, 1) := by decide +kernel
theorem dX6_beside_88 : decode cX6_beside 88 = .ok (.iadd, 1) := by decide +kernel
theorem dX6_beside_89 : decode cX6_beside 89 = .ok (.istore_n 3, 1) := by decide +kernel
theorem dX6_beside_90 : decode cX6_beside 90 = .ok (.iinc 5 1, 3) := by decide +kernel
theorem dX6_beside_93 : decode cX6_beside 93 = .ok (.goto (-50), 3) := by decide +kernel
theorem dX6_beside_96 : decode cX6_beside 96 = .ok (.iinc 4 1, 3) := by decide +kernel
theorem dX6_beside_99 : decode cX6_beside 99 = .ok (.goto (-66), 3) := by decide +kernel
theorem dX6_beside_102 : decode cX6_beside 102 = .ok (.iload_n 3, 1) := by decide +kernel
theorem dX6_beside_103 : decode cX6_beside 103 = .ok (.ireturn, 1) := by decide +kernel
theorem dX6_unlike_0 : decode cX6_unlike 0 = .ok (.aload_n 0, 1) := by decide +kernel
theorem dX6_unlike_1 : decode cX6_unlike 1 = .ok (.iload_n 1, 1) := by decide +kernel
theorem dX6_unlike_2 : decode cX6_unlike 2 = .ok (.invokevirtual 161, 3) := by decide +kernel
theorem dX6_unlike_5 : decode cX6_unlike 5 = .ok (.ifCond .eq 11, 3) := by decide +kernel
theorem dX6_unlike_8 : decode cX6_unlike 8 = .ok (.aload_n 0, 1) := by decide +kernel
theorem dX6_unlike_9 : decode cX6_unlike 9 = .ok (.iload_n 2, 1) := by decide +kernel
theorem dX6_unlike_10 : decode cX6_unlike 10 = .ok (.invokevirtual 161, 3) := by decide +kernel
theorem dX6_unlike_13 : decode cX6_unlike 13 = .ok (.ifCond .ne 10, 3) := by decide +kernel
theorem dX6_unlike_16 : decode cX6_unlike 16 = .ok (.aload_n 0, 1) := by decide +kernel
theorem dX6_unlike_17 : decode cX6_unlike 17 = .ok (.bipush (-2), 2) := by decide +kernel
theorem dX6_unlike_19 : decode cX6_unlike 19 = .ok (.invokevirtual 68, 3) := by decide +kernel
theorem dX6_unlike_22 : decode cX6_unlike 22 = .ok (.ireturn, 1) := by decide +kernel
theorem dX6_unlike_23 : decode cX6_unlike 23 = .ok (.iconst 0, 1) := by decide +kernel
theorem dX6_unlike_24 : decode cX6_unlike 24 = .ok (.istore_n 3, 1) := by decide +kernel
theorem dX6_unlike_25 : decode cX6_unlike 25 = .ok (.iconst 0, 1) := by decide +kernel
theorem dX6_unlike_26 : decode cX6_unlike 26 = .ok (.istore 4, 2) := by decide +kernel
theorem dX6_unlike_28 : decode cX6_unlike 28 = .ok (.iload 4, 2) := by decide +kernel
theorem dX6_unlike_30 : decode cX6_unlike 30 = .ok (.iconst 4, 1) := by decide +kernel
theorem dX6_unlike_31 : decode cX6_unlike 31 = .ok (.if_icmp .ge 53, 3) := by decide +kernel
theorem dX6_unlike_34 : decode cX6_unlike 34 = .ok (.iload_n 3, 1) := by decide +kernel
theorem dX6_unlike_35 : decode cX6_unlike 35 = .ok (.aload_n 0, 1) := by decide +kernel
theorem dX6_unlike_36 : decode cX6_unlike 36 = .ok (.iload 4, 2) := by decide +kernel
theorem dX6_unlike_38 : decode cX6_unlike 38 = .ok (.invokevirtual 61, 3) := by decide +kernel
theorem dX6_unlike_41 : decode cX6_unlike 41 = .ok (.ifCond .eq 34, 3) := by decide +kernel
theorem dX6_unlike_44 : decode cX6_unlike 44 = .ok (.aload_n 0, 1) := by decide +kernel
theorem dX6_unlike_45 : decode cX6_unlike 45 = .ok (.iload 4, 2) := by decide +kernel
theorem dX6_unlike_47 : decode cX6_unlike 47 = .ok (.aload_n 0, 1) := by decide +kernel
theorem dX6_unlike_48 : decode cX6_unlike 48 = .ok (.getfield 35, 3) := by decide +kernel
theorem dX6_unlike_51 : decode cX6_unlike 51 = .ok (.iload_n 1, 1) := by decide +kernel
theorem dX6_unlike_52 : decode cX6_unlike 52 = .ok (.iaload, 1) := by decide +kernel
theorem dX6_unlike_53 : decode cX6_unlike 53 = .ok (.invokevirtual 79, 3) := by decide +kernel
theorem dX6_unlike_56 : decode cX6_unlike 56 = .ok (.aload_n 0, 1) := by decide +kernel
theorem dX6_unlike_57 : decode cX6_unlike 57 = .ok (.iload 4, 2) := by decide +kernel
theorem dX6_unlike_59 : decode cX6_unlike 59 = .ok (.aload_n 0, 1) := by decide +kernel
theorem dX6_unlike_60 : decode cX6_unlike 60 = .ok (.getfield 35, 3) := by decide +kernel
theorem dX6_unlike_63 : decode cX6_unlike 63 = .ok (.iload_n 2, 1) := by decide +kernel
theorem dX6_unlike_64 : decode cX6_unlike 64 = .ok (.iaload, 1) := by decide +kernel
theorem dX6_unlike_65 : decode cX6_unlike 65 = .ok (.invokevirtual 79, 3) := by decide +kernel
theorem dX6_unlike_68 : decode cX6_unlike 68 = .ok (.if_icmp .eq 7, 3) := by decide +kernel
theorem dX6_unlike_71 : decode cX6_unlike 71 = .ok (.iconst 1, 1) := by decide +kernel
theorem dX6_unlike_72 : decode cX6_unlike 72 = .ok (.goto 4, 3) := by decide +kernel
theorem dX6_unlike_75 : decode cX6_unlike 75 = .ok (.iconst 0, 1) := by decide +kernel
theorem dX6_unlike_76 : decode cX6_unlike 76 = .ok (.iadd, 1) := by decide +kernel
theorem dX6_unlike_77 : decode cX6_unlike 77 = .ok (.istore_n 3, 1) := by decide +kernel
theorem dX6_unlike_78 : decode cX6_unlike 78 = .ok (.iinc 4 1, 3) := by decide +kernel
theorem dX6_unlike_81 : decode cX6_unlike 81 = .ok (.goto (-53), 3) := by decide +kernel
theorem dX6_unlike_84 : decode cX6_unlike 84 = .ok (.iload_n 3, 1) := by decide +kernel
theorem dX6_unlike_85 : decode cX6_unlike 85 = .ok (.ireturn, 1) := by decide +kernel
theorem dX6_odd_0 : decode cX6_odd 0 = .ok (.iload_n 1, 1) := by decide +kernel
theorem dX6_odd_1 : decode cX6_odd 1 = .ok (.iconst 0, 1) := by decide +kernel
theorem dX6_odd_2 : decode cX6_odd 2 = .ok (.iconst 1, 1) := by decide +kernel
theorem dX6_odd_3 : decode cX6_odd 3 = .ok (.invokestatic 53, 3) := by decide +kernel
theorem dX6_odd_6 : decode cX6_odd 6 = .ok (.ifCond .ne 10, 3) := by decide +kernel
theorem dX6_odd_9 : decode cX6_odd 9 = .ok (.aload_n 0, 1) := by decide +kernel
theorem dX6_odd_10 : decode cX6_odd 10 = .ok (.bipush (-2), 2) := by decide +kernel
theorem dX6_odd_12 : decode cX6_odd 12 = .ok (.invokevirtual 68, 3) := by decide +kernel
theorem dX6_odd_15 : decode cX6_odd 15 = .ok (.ireturn, 1) := by decide +kernel
theorem dX6_odd_16 : decode cX6_odd 16 = .ok (.aload_n 0, 1) := by decide +kernel
theorem dX6_odd_17 : decode cX6_odd 17 = .ok (.invokevirtual 112, 3) := by decide +kernel
theorem dX6_odd_20 : decode cX6_odd 20 = .ok (.iconst 0, 1) := by decide +kernel
theorem dX6_odd_21 : decode cX6_odd 21 = .ok (.istore_n 2, 1) := by decide +kernel
theorem dX6_odd_22 : decode cX6_odd 22 = .ok (.iconst 1, 1) := by decide +kernel
theorem dX6_odd_23 : decode cX6_odd 23 = .ok (.istore_n 3, 1) := by decide +kernel
theorem dX6_odd_24 : decode cX6_odd 24 = .ok (.iload_n 3, 1) := by decide +kernel
theorem dX6_odd_25 : decode cX6_odd 25 = .ok (.aload_n 0, 1) := by decide +kernel
theorem dX6_odd_26 : decode cX6_odd 26 = .ok (.getfield 152, 3) := by decide +kernel
theorem dX6_odd_29 : decode cX6_odd 29 = .ok (.if_icmp .ge 65, 3) := by decide +kernel
theorem dX6_odd_32 : decode cX6_odd 32 = .ok (.iload_n 1, 1) := by decide +kernel
theorem dX6_odd_33 : decode cX6_odd 33 = .ok (.ifCond .ne 24, 3) := by decide +kernel
theorem dX6_odd_36 : decode cX6_odd 36 = .ok (.aload_n 0, 1) := by decide +kernel
theorem dX6_odd_37 : decode cX6_odd 37 = .ok (.iload_n 3, 1) := by decide +kernel
theorem dX6_odd_38 : decode cX6_odd 38 = .ok (.invokevirtual 167, 3) := by decide +kernel
theorem dX6_odd_41 : decode cX6_odd 41 = .ok (.aload_n 0, 1) := by decide +kernel
theorem dX6_odd_42 : decode cX6_odd 42 = .ok (.iload_n 2, 1) := by decide +kernel
theorem dX6_odd_43 : decode cX6_odd 43 = .ok (.invokevirtual 167, 3) := by decide +kernel
theorem dX6_odd_46 : decode cX6_odd 46 = .ok (.if_icmp .ge 7, 3) := by decide +kernel
theorem dX6_odd_49 : decode cX6_odd 49 = .ok (.iconst 1, 1) := by decide +kernel
theorem dX6_odd_50 : decode cX6_odd 50 = .ok (.goto 25, 3) := by decide +kernel
theorem dX6_odd_53 : decode cX6_odd 53 = .ok (.iconst 0, 1) := by decide +kernel
theorem dX6_odd_54 : decode cX6_odd 54 = .ok (.goto 21, 3) := by decide +kernel
theorem dX6_odd_57 : decode cX6_odd 57 = .ok (.aload_n 0, 1) := by decide +kernel
theorem dX6_odd_58 : decode cX6_odd 58 = .ok (.iload_n 3, 1) := by decide +kernel
theorem dX6_odd_59 : decode cX6_odd 59 = .ok (.invokevirtual 170, 3) := by decide +kernel
theorem dX6_odd_62 : decode cX6_odd 62 = .ok (.aload_n 0, 1) := by decide +kernel
theorem dX6_odd_63 : decode cX6_odd 63 = .ok (.iload_n 2, 1) := by decide +kernel
theorem dX6_odd_64 : decode cX6_odd 64 = .ok (.invokevirtual 170, 3) := by decide +kernel
theorem dX6_odd_67 : decode cX6_odd 67 = .ok (.if_icmp .le 7, 3) := by decide +kernel
theorem dX6_odd_70 : decode cX6_odd 70 = .ok (.iconst 1, 1) := by decide +kernel
theorem dX6_odd_71 : decode cX6_odd 71 = .ok (.goto 4, 3) := by decide +kernel
theorem dX6_odd_74 : decode cX6_odd 74 = .ok (.iconst 0, 1) := by decide +kernel
theorem dX6_odd_75 : decode cX6_odd 75 = .ok (.istore 4, 2) := by decide +kernel
theorem dX6_odd_77 : decode cX6_odd 77 = .ok (.iload 4, 2) := by decide +kernel
theorem dX6_odd_79 : decode cX6_odd 79 = .ok (.ifCond .eq 7, 3) := by decide +kernel
theorem dX6_odd_82 : decode cX6_odd 82 = .ok (.iload_n 3, 1) := by decide +kernel
theorem dX6_odd_83 : decode cX6_odd 83 = .ok (.goto 4, 3) := by decide +kernel
theorem dX6_odd_86 : decode cX6_odd 86 = .ok (.iload_n 2, 1) := by decide +kernel
theorem dX6_odd_87 : decode cX6_odd 87 = .ok (.istore_n 2, 1) := by decide +kernel
theorem dX6_odd_88 : decode cX6_odd 88 = .ok (.iinc 3 1, 3) := by decide +kernel
theorem dX6_odd_91 : decode cX6_odd 91 = .ok (.goto (-67), 3) := by decide +kernel
theorem dX6_odd_94 : decode cX6_odd 94 = .ok (.iload_n 2, 1) := by decide +kernel
theorem dX6_odd_95 : decode cX6_odd 95 = .ok (.ireturn, 1) := by decide +kernel
theorem dX6_paper_0 : decode cX6_paper 0 = .ok (.iload_n 1, 1) := by decide +kernel
theorem dX6_paper_1 : decode cX6_paper 1 = .ok (.ifCond .ne 12, 3) := by decide +kernel
theorem dX6_paper_4 : decode cX6_paper 4 = .ok (.iload_n 2, 1) := by decide +kernel
theorem dX6_paper_5 : decode cX6_paper 5 = .ok (.iconst 1, 1) := by decide +kernel
theorem dX6_paper_6 : decode cX6_paper 6 = .ok (.iconst 3, 1) := by decide +kernel
theorem dX6_paper_7 : decode cX6_paper 7 = .ok (.invokestatic 53, 3) := by decide +kernel
theorem dX6_paper_10 : decode cX6_paper 10 = .ok (.goto 37, 3) := by decide +kernel
theorem dX6_paper_13 : decode cX6_paper 13 = .ok (.iload_n 1, 1) := by decide +kernel
theorem dX6_paper_14 : decode cX6_paper 14 = .ok (.iconst 1, 1) := by decide +kernel
theorem dX6_paper_15 : decode cX6_paper 15 = .ok (.if_icmp .ne 13, 3) := by decide +kernel
theorem dX6_paper_18 : decode cX6_paper 18 = .ok (.iload_n 2, 1) := by decide +kernel
theorem dX6_paper_19 : decode cX6_paper 19 = .ok (.iconst 4, 1) := by decide +kernel
theorem dX6_paper_20 : decode cX6_paper 20 = .ok (.bipush 30, 2) := by decide +kernel
theorem dX6_paper_22 : decode cX6_paper 22 = .ok (.invokestatic 53, 3) := by decide +kernel
theorem dX6_paper_25 : decode cX6_paper 25 = .ok (.goto 22, 3) := by decide +kernel
theorem dX6_paper_28 : decode cX6_paper 28 = .ok (.iload_n 1, 1) := by decide +kernel
theorem dX6_paper_29 : decode cX6_paper 29 = .ok (.iconst 2, 1) := by decide +kernel
theorem dX6_paper_30 : decode cX6_paper 30 = .ok (.if_icmp .ne 16, 3) := by decide +kernel
theorem dX6_paper_33 : decode cX6_paper 33 = .ok (.iload_n 2, 1) := by decide +kernel
theorem dX6_paper_34 : decode cX6_paper 34 = .ok (.iconst 0, 1) := by decide +kernel
theorem dX6_paper_35 : decode cX6_paper 35 = .ok (.iconst 3, 1) := by decide +kernel
theorem dX6_paper_36 : decode cX6_paper 36 = .ok (.invokestatic 53, 3) := by decide +kernel
theorem dX6_paper_39 : decode cX6_paper 39 = .ok (.ifCond .eq 7, 3) := by decide +kernel
theorem dX6_paper_42 : decode cX6_paper 42 = .ok (.iconst 1, 1) := by decide +kernel
theorem dX6_paper_43 : decode cX6_paper 43 = .ok (.goto 4, 3) := by decide +kernel
theorem dX6_paper_46 : decode cX6_paper 46 = .ok (.iconst 0, 1) := by decide +kernel
theorem dX6_paper_47 : decode cX6_paper 47 = .ok (.istore_n 3, 1) := by decide +kernel
theorem dX6_paper_48 : decode cX6_paper 48 = .ok (.iload_n 3, 1) := by decide +kernel
theorem dX6_paper_49 : decode cX6_paper 49 = .ok (.ifCond .ne 10, 3) := by decide +kernel
theorem dX6_paper_52 : decode cX6_paper 52 = .ok (.aload_n 0, 1) := by decide +kernel
theorem dX6_paper_53 : decode cX6_paper 53 = .ok (.bipush (-2), 2) := by decide +kernel
theorem dX6_paper_55 : decode cX6_paper 55 = .ok (.invokevirtual 68, 3) := by decide +kernel
theorem dX6_paper_58 : decode cX6_paper 58 = .ok (.ireturn, 1) := by decide +kernel
theorem dX6_paper_59 : decode cX6_paper 59 = .ok (.aload_n 0, 1) := by decide +kernel
theorem dX6_paper_60 : decode cX6_paper 60 = .ok (.getfield 16, 3) := by decide +kernel
theorem dX6_paper_63 : decode cX6_paper 63 = .ok (.iload_n 1, 1) := by decide +kernel
theorem dX6_paper_64 : decode cX6_paper 64 = .ok (.iaload, 1) := by decide +kernel
theorem dX6_paper_65 : decode cX6_paper 65 = .ok (.istore 4, 2) := by decide +kernel
theorem dX6_paper_67 : decode cX6_paper 67 = .ok (.aload_n 0, 1) := by decide +kernel
theorem dX6_paper_68 : decode cX6_paper 68 = .ok (.getfield 16, 3) := by decide +kernel
theorem dX6_paper_71 : decode cX6_paper 71 = .ok (.iload_n 1, 1) := by decide +kernel
theorem dX6_paper_72 : decode cX6_paper 72 = .ok (.iload_n 2, 1) := by decide +kernel
theorem dX6_paper_73 : decode cX6_paper 73 = .ok (.iastore, 1) := by decide +kernel
theorem dX6_paper_74 : decode cX6_paper 74 = .ok (.iload 4, 2) := by decide +kernel
theorem dX6_paper_76 : decode cX6_paper 76 = .ok (.ireturn, 1) := by decide +kernel
theorem dX6_heightOf_0 : decode cX6_heightOf 0 = .ok (.iconst 2, 1) := by decide +kernel
theorem dX6_heightOf_1 : decode cX6_heightOf 1 = .ok (.aload_n 0, 1) := by decide +kernel
theorem dX6_heightOf_2 : decode cX6_heightOf 2 = .ok (.iload_n 2, 1) := by decide +kernel
theorem dX6_heightOf_3 : decode cX6_heightOf 3 = .ok (.aload_n 0, 1) := by decide +kernel
theorem dX6_heightOf_4 : decode cX6_heightOf 4 = .ok (.iload_n 2, 1) := by decide +kernel
theorem dX6_heightOf_5 : decode cX6_heightOf 5 = .ok (.aload_n 0, 1) := by decide +kernel
theorem dX6_heightOf_6 : decode cX6_heightOf 6 = .ok (.getfield 35, 3) := by decide +kernel
theorem dX6_heightOf_9 : decode cX6_heightOf 9 = .ok (.iload_n 1, 1) := by decide +kernel
theorem dX6_heightOf_10 : decode cX6_heightOf 10 = .ok (.iaload, 1) := by decide +kernel
theorem dX6_heightOf_11 : decode cX6_heightOf 11 = .ok (.invokevirtual 79, 3) := by decide +kernel
theorem dX6_heightOf_14 : decode cX6_heightOf 14 = .ok (.invokevirtual 179, 3) := by decide +kernel
theorem dX6_heightOf_17 : decode cX6_heightOf 17 = .ok (.iadd, 1) := by decide +kernel
theorem dX6_heightOf_18 : decode cX6_heightOf 18 = .ok (.ireturn, 1) := by decide +kernel
theorem dX6_begins_0 : decode cX6_begins 0 = .ok (.iconst 0, 1) := by decide +kernel
theorem dX6_begins_1 : decode cX6_begins 1 = .ok (.istore_n 1, 1) := by decide +kernel
theorem dX6_begins_2 : decode cX6_begins 2 = .ok (.iload_n 1, 1) := by decide +kernel
theorem dX6_begins_3 : decode cX6_begins 3 = .ok (.aload_n 0, 1) := by decide +kernel
theorem dX6_begins_4 : decode cX6_begins 4 = .ok (.getfield 16, 3) := by decide +kernel
theorem dX6_begins_7 : decode cX6_begins 7 = .ok (.iconst 0, 1) := by decide +kernel
theorem dX6_begins_8 : decode cX6_begins 8 = .ok (.iaload, 1) := by decide +kernel
theorem dX6_begins_9 : decode cX6_begins 9 = .ok (.if_icmp .ge 33, 3) := by decide +kernel
theorem dX6_begins_12 : decode cX6_begins 12 = .ok (.aload_n 0, 1) := by decide +kernel
theorem dX6_begins_13 : decode cX6_begins 13 = .ok (.getfield 50, 3) := by decide +kernel
theorem dX6_begins_16 : decode cX6_begins 16 = .ok (.aload_n 0, 1) := by decide +kernel
theorem dX6_begins_17 : decode cX6_begins 17 = .ok (.getfield 16, 3) := by decide +kernel
theorem dX6_begins_20 : decode cX6_begins 20 = .ok (.iconst 0, 1) := by decide +kernel
theorem dX6_begins_21 : decode cX6_begins 21 = .ok (.iaload, 1) := by decide +kernel
theorem dX6_begins_22 : decode cX6_begins 22 = .ok (.aload_n 0, 1) := by decide +kernel
theorem dX6_begins_23 : decode cX6_begins 23 = .ok (.getfield 182, 3) := by decide +kernel
theorem dX6_begins_26 : decode cX6_begins 26 = .ok (.imul, 1) := by decide +kernel
theorem dX6_begins_27 : decode cX6_begins 27 = .ok (.iload_n 1, 1) := by decide +kernel
theorem dX6_begins_28 : decode cX6_begins 28 = .ok (.iadd, 1) := by decide +kernel
theorem dX6_begins_29 : decode cX6_begins 29 = .ok (.aload_n 0, 1) := by decide +kernel
theorem dX6_begins_30 : decode cX6_begins 30 = .ok (.getfield 16, 3) := by decide +kernel
theorem dX6_begins_33 : decode cX6_begins 33 = .ok (.iconst 1, 1) := by decide +kernel
theorem dX6_begins_34 : decode cX6_begins 34 = .ok (.iaload, 1) := by decide +kernel
theorem dX6_begins_35 : decode cX6_begins 35 = .ok (.iastore, 1) := by decide +kernel
theorem dX6_begins_36 : decode cX6_begins 36 = .ok (.iinc 1 1, 3) := by decide +kernel
theorem dX6_begins_39 : decode cX6_begins 39 = .ok (.goto (-37), 3) := by decide +kernel
theorem dX6_begins_42 : decode cX6_begins 42 = .ok (.aload_n 0, 1) := by decide +kernel
theorem dX6_begins_43 : decode cX6_begins 43 = .ok (.dup, 1) := by decide +kernel
theorem dX6_begins_44 : decode cX6_begins 44 = .ok (.getfield 182, 3) := by decide +kernel
theorem dX6_begins_47 : decode cX6_begins 47 = .ok (.iconst 1, 1) := by decide +kernel
theorem dX6_begins_48 : decode cX6_begins 48 = .ok (.iadd, 1) := by decide +kernel
theorem dX6_begins_49 : decode cX6_begins 49 = .ok (.putfield 182, 3) := by decide +kernel
theorem dX6_begins_52 : decode cX6_begins 52 = .ok (.return_, 1) := by decide +kernel
theorem dX6_columnBy_0 : decode cX6_columnBy 0 = .ok (.aload_n 0, 1) := by decide +kernel
theorem dX6_columnBy_1 : decode cX6_columnBy 1 = .ok (.getfield 16, 3) := by decide +kernel
theorem dX6_columnBy_4 : decode cX6_columnBy 4 = .ok (.iconst 0, 1) := by decide +kernel
theorem dX6_columnBy_5 : decode cX6_columnBy 5 = .ok (.iaload, 1) := by decide +kernel
theorem dX6_columnBy_6 : decode cX6_columnBy 6 = .ok (.aload_n 0, 1) := by decide +kernel
theorem dX6_columnBy_7 : decode cX6_columnBy 7 = .ok (.getfield 182, 3) := by decide +kernel
theorem dX6_columnBy_10 : decode cX6_columnBy 10 = .ok (.imul, 1) := by decide +kernel
theorem dX6_columnBy_11 : decode cX6_columnBy 11 = .ok (.istore 4, 2) := by decide +kernel
theorem dX6_columnBy_13 : decode cX6_columnBy 13 = .ok (.iload_n 1, 1) := by decide +kernel
theorem dX6_columnBy_14 : decode cX6_columnBy 14 = .ok (.ifCond .ne 62, 3) := by decide +kernel
theorem dX6_columnBy_17 : decode cX6_columnBy 17 = .ok (.iload_n 3, 1) := by decide +kernel
theorem dX6_columnBy_18 : decode cX6_columnBy 18 = .ok (.iconst 1, 1) := by decide +kernel
theorem dX6_columnBy_19 : decode cX6_columnBy 19 = .ok (.iadd, 1) := by decide +kernel
theorem dX6_columnBy_20 : decode cX6_columnBy 20 = .ok (.aload_n 0, 1) := by decide +kernel
theorem dX6_columnBy_21 : decode cX6_columnBy 21 = .ok (.getfield 16, 3) := by decide +kernel
theorem dX6_columnBy_24 : decode cX6_columnBy 24 = .ok (.iconst 0, 1) := by decide +kernel
theorem dX6_columnBy_25 : decode cX6_columnBy 25 = .ok (.iaload, 1) := by decide +kernel
theorem dX6_columnBy_26 : decode cX6_columnBy 26 = .ok (.irem, 1) := by decide +kernel
theorem dX6_columnBy_27 : decode cX6_columnBy 27 = .ok (.ifCond .eq 7, 3) := by decide +kernel
theorem dX6_columnBy_30 : decode cX6_columnBy 30 = .ok (.iconst 1, 1) := by decide +kernel
theorem dX6_columnBy_31 : decode cX6_columnBy 31 = .ok (.goto 4, 3) := by decide +kernel
theorem dX6_columnBy_34 : decode cX6_columnBy 34 = .ok (.iconst 0, 1) := by decide +kernel
theorem dX6_columnBy_35 : decode cX6_columnBy 35 = .ok (.istore 5, 2) := by decide +kernel
theorem dX6_columnBy_37 : decode cX6_columnBy 37 = .ok (.aload_n 0, 1) := by decide +kernel
theorem dX6_columnBy_38 : decode cX6_columnBy 38 = .ok (.getfield 50, 3) := by decide +kernel
theorem dX6_columnBy_41 : decode cX6_columnBy 41 = .ok (.iload_n 3, 1) := by decide +kernel
theorem dX6_columnBy_42 : decode cX6_columnBy 42 = .ok (.iaload, 1) := by decide +kernel
theorem dX6_columnBy_43 : decode cX6_columnBy 43 = .ok (.iload_n 2, 1) := by decide +kernel
theorem dX6_columnBy_44 : decode cX6_columnBy 44 = .ok (.if_icmp .lt 7, 3) := by decide +kernel
theorem dX6_columnBy_47 : decode cX6_columnBy 47 = .ok (.iload_n 3, 1) := by decide +kernel
theorem dX6_columnBy_48 : decode cX6_columnBy 48 = .ok (.goto 27, 3) := by decide +kernel
theorem dX6_columnBy_51 : decode cX6_columnBy 51 = .ok (.iload 5, 2) := by decide +kernel
theorem dX6_columnBy_53 : decode cX6_columnBy 53 = .ok (.ifCond .eq 21, 3) := by decide +kernel
theorem dX6_columnBy_56 : decode cX6_columnBy 56 = .ok (.aload_n 0, 1) := by decide +kernel
theorem dX6_columnBy_57 : decode cX6_columnBy 57 = .ok (.getfield 50, 3) := by decide +kernel
theorem dX6_columnBy_60 : decode cX6_columnBy 60 = .ok (.iload_n 3, 1) := by decide +kernel
theorem dX6_columnBy_61 : decode cX6_columnBy 61 = .ok (.iconst 1, 1) := by decide +kernel
theorem dX6_columnBy_62 : decode cX6_columnBy 62 = .ok (.iadd, 1) := by decide +kernel
theorem dX6_columnBy_63 : decode cX6_columnBy 63 = .ok (.iaload, 1) := by decide +kernel
theorem dX6_columnBy_64 : decode cX6_columnBy 64 = .ok (.iload_n 2, 1) := by decide +kernel
theorem dX6_columnBy_65 : decode cX6_columnBy 65 = .ok (.if_icmp .lt 9, 3) := by decide +kernel
theorem dX6_columnBy_68 : decode cX6_columnBy 68 = .ok (.iload_n 3, 1) := by decide +kernel
theorem dX6_columnBy_69 : decode cX6_columnBy 69 = .ok (.iconst 1, 1) := by decide +kernel
theorem dX6_columnBy_70 : decode cX6_columnBy 70 = .ok (.iadd, 1) := by decide +kernel
theorem dX6_columnBy_71 : decode cX6_columnBy 71 = .ok (.goto 4, 3) := by decide +kernel
theorem dX6_columnBy_74 : decode cX6_columnBy 74 = .ok (.iconst (-1), 1) := by decide +kernel
theorem dX6_columnBy_75 : decode cX6_columnBy 75 = .ok (.ireturn, 1) := by decide +kernel
theorem dX6_columnBy_76 : decode cX6_columnBy 76 = .ok (.iconst (-1), 1) := by decide +kernel
theorem dX6_columnBy_77 : decode cX6_columnBy 77 = .ok (.istore 5, 2) := by decide +kernel
theorem dX6_columnBy_79 : decode cX6_columnBy 79 = .ok (.iconst 0, 1) := by decide +kernel
theorem dX6_columnBy_80 : decode cX6_columnBy 80 = .ok (.istore 6, 2) := by decide +kernel
theorem dX6_columnBy_82 : decode cX6_columnBy 82 = .ok (.iload 6, 2) := by decide +kernel
theorem dX6_columnBy_84 : decode cX6_columnBy 84 = .ok (.iload 4, 2) := by decide +kernel
theorem dX6_columnBy_86 : decode cX6_columnBy 86 = .ok (.if_icmp .ge 90, 3) := by decide +kernel
theorem dX6_columnBy_89 : decode cX6_columnBy 89 = .ok (.aload_n 0, 1) := by decide +kernel
theorem dX6_columnBy_90 : decode cX6_columnBy 90 = .ok (.getfield 50, 3) := by decide +kernel
theorem dX6_columnBy_93 : decode cX6_columnBy 93 = .ok (.iload 6, 2) := by decide +kernel
theorem dX6_columnBy_95 : decode cX6_columnBy 95 = .ok (.iaload, 1) := by decide +kernel
theorem dX6_columnBy_96 : decode cX6_columnBy 96 = .ok (.iload_n 2, 1) := by decide +kernel
theorem dX6_columnBy_97 : decode cX6_columnBy 97 = .ok (.if_icmp .lt 73, 3) := by decide +kernel
theorem dX6_columnBy_100 : decode cX6_columnBy 100 = .ok (.iload 5, 2) := by decide +kernel
theorem dX6_columnBy_102 : decode cX6_columnBy 102 = .ok (.ifCond .lt 47, 3) := by decide +kernel
theorem dX6_columnBy_105 : decode cX6_columnBy 105 = .ok (.iload_n 1, 1) := by decide +kernel
theorem dX6_columnBy_106 : decode cX6_columnBy 106 = .ok (.iconst 2, 1) := by decide +kernel
theorem dX6_columnBy_107 : decode cX6_columnBy 107 = .ok (.if_icmp .ne 20, 3) := by decide +kernel
theorem dX6_columnBy_110 : decode cX6_columnBy 110 = .ok (.aload_n 0, 1) := by decide +kernel
theorem dX6_columnBy_111 : decode cX6_columnBy 111 = .ok (.getfield 50, 3) := by decide +kernel
theorem dX6_columnBy_114 : decode cX6_columnBy 114 = .ok (.iload 6, 2) := by decide +kernel
theorem dX6_columnBy_116 : decode cX6_columnBy 116 = .ok (.iaload, 1) := by decide +kernel
theorem dX6_columnBy_117 : decode cX6_columnBy 117 = .ok (.aload_n 0, 1) := by decide +kernel
theorem dX6_columnBy_118 : decode cX6_columnBy 118 = .ok (.getfield 50, 3) := by decide +kernel
theorem dX6_columnBy_121 : decode cX6_columnBy 121 = .ok (.iload 5, 2) := by decide +kernel
theorem dX6_columnBy_123 : decode cX6_columnBy 123 = .ok (.iaload, 1) := by decide +kernel
theorem dX6_columnBy_124 : decode cX6_columnBy 124 = .ok (.if_icmp .lt 25, 3) := by decide +kernel
theorem dX6_columnBy_127 : decode cX6_columnBy 127 = .ok (.iload_n 1, 1) := by decide +kernel
theorem dX6_columnBy_128 : decode cX6_columnBy 128 = .ok (.iconst 3, 1) := by decide +kernel
theorem dX6_columnBy_129 : decode cX6_columnBy 129 = .ok (.if_icmp .ne 24, 3) := by decide +kernel
theorem dX6_columnBy_132 : decode cX6_columnBy 132 = .ok (.aload_n 0, 1) := by decide +kernel
theorem dX6_columnBy_133 : decode cX6_columnBy 133 = .ok (.getfield 50, 3) := by decide +kernel
theorem dX6_columnBy_136 : decode cX6_columnBy 136 = .ok (.iload 6, 2) := by decide +kernel
theorem dX6_columnBy_138 : decode cX6_columnBy 138 = .ok (.iaload, 1) := by decide +kernel
theorem dX6_columnBy_139 : decode cX6_columnBy 139 = .ok (.aload_n 0, 1) := by decide +kernel
theorem dX6_columnBy_140 : decode cX6_columnBy 140 = .ok (.getfield 50, 3) := by decide +kernel
theorem dX6_columnBy_143 : decode cX6_columnBy 143 = .ok (.iload 5, 2) := by decide +kernel
theorem dX6_columnBy_145 : decode cX6_columnBy 145 = .ok (.iaload, 1) := by decide +kernel
theorem dX6_columnBy_146 : decode cX6_columnBy 146 = .ok (.if_icmp .le 7, 3) := by decide +kernel
theorem dX6_columnBy_149 : decode cX6_columnBy 149 = .ok (.iconst 1, 1) := by decide +kernel
theorem dX6_columnBy_150 : decode cX6_columnBy 150 = .ok (.goto 4, 3) := by decide +kernel
theorem dX6_columnBy_153 : decode cX6_columnBy 153 = .ok (.iconst 0, 1) := by decide +kernel
theorem dX6_columnBy_154 : decode cX6_columnBy 154 = .ok (.istore 7, 2) := by decide +kernel
theorem dX6_columnBy_156 : decode cX6_columnBy 156 = .ok (.iload 7, 2) := by decide +kernel
theorem dX6_columnBy_158 : decode cX6_columnBy 158 = .ok (.ifCond .eq 8, 3) := by decide +kernel
theorem dX6_columnBy_161 : decode cX6_columnBy 161 = .ok (.iload 6, 2) := by decide +kernel
theorem dX6_columnBy_163 : decode cX6_columnBy 163 = .ok (.goto 5, 3) := by decide +kernel
theorem dX6_columnBy_166 : decode cX6_columnBy 166 = .ok (.iload 5, 2) := by decide +kernel
theorem dX6_columnBy_168 : decode cX6_columnBy 168 = .ok (.istore 5, 2) := by decide +kernel
theorem dX6_columnBy_170 : decode cX6_columnBy 170 = .ok (.iinc 6 1, 3) := by decide +kernel
theorem dX6_columnBy_173 : decode cX6_columnBy 173 = .ok (.goto (-91), 3) := by decide +kernel
theorem dX6_columnBy_176 : decode cX6_columnBy 176 = .ok (.iload 5, 2) := by decide +kernel
theorem dX6_columnBy_178 : decode cX6_columnBy 178 = .ok (.ireturn, 1) := by decide +kernel
theorem dX6_prints_0 : decode cX6_prints 0 = .ok (.aload_n 0, 1) := by decide +kernel
theorem dX6_prints_1 : decode cX6_prints 1 = .ok (.iconst 0, 1) := by decide +kernel
theorem dX6_prints_2 : decode cX6_prints 2 = .ok (.putfield 185, 3) := by decide +kernel
theorem dX6_prints_5 : decode cX6_prints 5 = .ok (.aload_n 0, 1) := by decide +kernel
theorem dX6_prints_6 : decode cX6_prints 6 = .ok (.iconst 0, 1) := by decide +kernel
theorem dX6_prints_7 : decode cX6_prints 7 = .ok (.putfield 182, 3) := by decide +kernel
theorem dX6_prints_10 : decode cX6_prints 10 = .ok (.aload_n 0, 1) := by decide +kernel
theorem dX6_prints_11 : decode cX6_prints 11 = .ok (.invokevirtual 188, 3) := by decide +kernel
theorem dX6_prints_14 : decode cX6_prints 14 = .ok (.iconst 0, 1) := by decide +kernel
theorem dX6_prints_15 : decode cX6_prints 15 = .ok (.istore_n 3, 1) := by decide +kernel
theorem dX6_prints_16 : decode cX6_prints 16 = .ok (.iconst 0, 1) := by decide +kernel
theorem dX6_prints_17 : decode cX6_prints 17 = .ok (.istore 4, 2) := by decide +kernel
theorem dX6_prints_19 : decode cX6_prints 19 = .ok (.iconst 0, 1) := by decide +kernel
theorem dX6_prints_20 : decode cX6_prints 20 = .ok (.istore 5, 2) := by decide +kernel
theorem dX6_prints_22 : decode cX6_prints 22 = .ok (.iload 5, 2) := by decide +kernel
theorem dX6_prints_24 : decode cX6_prints 24 = .ok (.iconst 4, 1) := by decide +kernel
theorem dX6_prints_25 : decode cX6_prints 25 = .ok (.if_icmp .ge 144, 3) := by decide +kernel
theorem dX6_prints_28 : decode cX6_prints 28 = .ok (.aload_n 0, 1) := by decide +kernel
theorem dX6_prints_29 : decode cX6_prints 29 = .ok (.iload 5, 2) := by decide +kernel
theorem dX6_prints_31 : decode cX6_prints 31 = .ok (.invokevirtual 61, 3) := by decide +kernel
theorem dX6_prints_34 : decode cX6_prints 34 = .ok (.ifCond .eq 129, 3) := by decide +kernel
theorem dX6_prints_37 : decode cX6_prints 37 = .ok (.aload_n 0, 1) := by decide +kernel
theorem dX6_prints_38 : decode cX6_prints 38 = .ok (.iload_n 1, 1) := by decide +kernel
theorem dX6_prints_39 : decode cX6_prints 39 = .ok (.iload 5, 2) := by decide +kernel
theorem dX6_prints_41 : decode cX6_prints 41 = .ok (.invokevirtual 191, 3) := by decide +kernel
theorem dX6_prints_44 : decode cX6_prints 44 = .ok (.istore 6, 2) := by decide +kernel
theorem dX6_prints_46 : decode cX6_prints 46 = .ok (.iload 4, 2) := by decide +kernel
theorem dX6_prints_48 : decode cX6_prints 48 = .ok (.ifCond .ne 14, 3) := by decide +kernel
theorem dX6_prints_51 : decode cX6_prints 51 = .ok (.iload 6, 2) := by decide +kernel
theorem dX6_prints_53 : decode cX6_prints 53 = .ok (.aload_n 0, 1) := by decide +kernel
theorem dX6_prints_54 : decode cX6_prints 54 = .ok (.getfield 16, 3) := by decide +kernel
theorem dX6_prints_57 : decode cX6_prints 57 = .ok (.iconst 1, 1) := by decide +kernel
theorem dX6_prints_58 : decode cX6_prints 58 = .ok (.iaload, 1) := by decide +kernel
theorem dX6_prints_59 : decode cX6_prints 59 = .ok (.if_icmp .le 7, 3) := by decide +kernel
theorem dX6_prints_62 : decode cX6_prints 62 = .ok (.iconst 1, 1) := by decide +kernel
theorem dX6_prints_63 : decode cX6_prints 63 = .ok (.goto 4, 3) := by decide +kernel
theorem dX6_prints_66 : decode cX6_prints 66 = .ok (.iconst 0, 1) := by decide +kernel
theorem dX6_prints_67 : decode cX6_prints 67 = .ok (.istore 4, 2) := by decide +kernel
theorem dX6_prints_69 : decode cX6_prints 69 = .ok (.aload_n 0, 1) := by decide +kernel
theorem dX6_prints_70 : decode cX6_prints 70 = .ok (.getfield 44, 3) := by decide +kernel
theorem dX6_prints_73 : decode cX6_prints 73 = .ok (.aload_n 0, 1) := by decide +kernel
theorem dX6_prints_74 : decode cX6_prints 74 = .ok (.getfield 185, 3) := by decide +kernel
theorem dX6_prints_77 : decode cX6_prints 77 = .ok (.iload 5, 2) := by decide +kernel
theorem dX6_prints_79 : decode cX6_prints 79 = .ok (.iastore, 1) := by decide +kernel
theorem dX6_prints_80 : decode cX6_prints 80 = .ok (.aload_n 0, 1) := by decide +kernel
theorem dX6_prints_81 : decode cX6_prints 81 = .ok (.getfield 47, 3) := by decide +kernel
theorem dX6_prints_84 : decode cX6_prints 84 = .ok (.aload_n 0, 1) := by decide +kernel
theorem dX6_prints_85 : decode cX6_prints 85 = .ok (.getfield 185, 3) := by decide +kernel
theorem dX6_prints_88 : decode cX6_prints 88 = .ok (.iconst (-1), 1) := by decide +kernel
theorem dX6_prints_89 : decode cX6_prints 89 = .ok (.iastore, 1) := by decide +kernel
theorem dX6_prints_90 : decode cX6_prints 90 = .ok (.iload 4, 2) := by decide +kernel
theorem dX6_prints_92 : decode cX6_prints 92 = .ok (.ifCond .ne 61, 3) := by decide +kernel
theorem dX6_prints_95 : decode cX6_prints 95 = .ok (.aload_n 0, 1) := by decide +kernel
theorem dX6_prints_96 : decode cX6_prints 96 = .ok (.iload_n 2, 1) := by decide +kernel
theorem dX6_prints_97 : decode cX6_prints 97 = .ok (.iload 6, 2) := by decide +kernel
theorem dX6_prints_99 : decode cX6_prints 99 = .ok (.iload_n 3, 1) := by decide +kernel
theorem dX6_prints_100 : decode cX6_prints 100 = .ok (.invokevirtual 194, 3) := by decide +kernel
theorem dX6_prints_103 : decode cX6_prints 103 = .ok (.istore 7, 2) := by decide +kernel
theorem dX6_prints_105 : decode cX6_prints 105 = .ok (.iload 7, 2) := by decide +kernel
theorem dX6_prints_107 : decode cX6_prints 107 = .ok (.ifCond .ge 20, 3) := by decide +kernel
theorem dX6_prints_110 : decode cX6_prints 110 = .ok (.aload_n 0, 1) := by decide +kernel
theorem dX6_prints_111 : decode cX6_prints 111 = .ok (.getfield 16, 3) := by decide +kernel
theorem dX6_prints_114 : decode cX6_prints 114 = .ok (.iconst 0, 1) := by decide +kernel
theorem dX6_prints_115 : decode cX6_prints 115 = .ok (.iaload, 1) := by decide +kernel
theorem dX6_prints_116 : decode cX6_prints 116 = .ok (.aload_n 0, 1) := by decide +kernel
theorem dX6_prints_117 : decode cX6_prints 117 = .ok (.getfield 182, 3) := by decide +kernel
theorem dX6_prints_120 : decode cX6_prints 120 = .ok (.imul, 1) := by decide +kernel
theorem dX6_prints_121 : decode cX6_prints 121 = .ok (.istore 7, 2) := by decide +kernel
theorem dX6_prints_123 : decode cX6_prints 123 = .ok (.aload_n 0, 1) := by decide +kernel
theorem dX6_prints_124 : decode cX6_prints 124 = .ok (.invokevirtual 188, 3) := by decide +kernel
theorem dX6_prints_127 : decode cX6_prints 127 = .ok (.aload_n 0, 1) := by decide +kernel
theorem dX6_prints_128 : decode cX6_prints 128 = .ok (.getfield 50, 3) := by decide +kernel
theorem dX6_prints_131 : decode cX6_prints 131 = .ok (.iload 7, 2) := by decide +kernel
theorem dX6_prints_133 : decode cX6_prints 133 = .ok (.dup2, 1) := by decide +kernel
theorem dX6_prints_134 : decode cX6_prints 134 = .ok (.iaload, 1) := by decide +kernel
theorem dX6_prints_135 : decode cX6_prints 135 = .ok (.iload 6, 2) := by decide +kernel
theorem dX6_prints_137 : decode cX6_prints 137 = .ok (.isub, 1) := by decide +kernel
theorem dX6_prints_138 : decode cX6_prints 138 = .ok (.iastore, 1) := by decide +kernel
theorem dX6_prints_139 : decode cX6_prints 139 = .ok (.aload_n 0, 1) := by decide +kernel
theorem dX6_prints_140 : decode cX6_prints 140 = .ok (.getfield 47, 3) := by decide +kernel
theorem dX6_prints_143 : decode cX6_prints 143 = .ok (.aload_n 0, 1) := by decide +kernel
theorem dX6_prints_144 : decode cX6_prints 144 = .ok (.getfield 185, 3) := by decide +kernel
theorem dX6_prints_147 : decode cX6_prints 147 = .ok (.iload 7, 2) := by decide +kernel
theorem dX6_prints_149 : decode cX6_prints 149 = .ok (.iastore, 1) := by decide +kernel
theorem dX6_prints_150 : decode cX6_prints 150 = .ok (.iload 7, 2) := by decide +kernel
theorem dX6_prints_152 : decode cX6_prints 152 = .ok (.istore_n 3, 1) := by decide +kernel
theorem dX6_prints_153 : decode cX6_prints 153 = .ok (.aload_n 0, 1) := by decide +kernel
theorem dX6_prints_154 : decode cX6_prints 154 = .ok (.dup, 1) := by decide +kernel
theorem dX6_prints_155 : decode cX6_prints 155 = .ok (.getfield 185, 3) := by decide +kernel
theorem dX6_prints_158 : decode cX6_prints 158 = .ok (.iconst 1, 1) := by decide +kernel
theorem dX6_prints_159 : decode cX6_prints 159 = .ok (.iadd, 1) := by decide +kernel
theorem dX6_prints_160 : decode cX6_prints 160 = .ok (.putfield 185, 3) := by decide +kernel
theorem dX6_prints_163 : decode cX6_prints 163 = .ok (.iinc 5 1, 3) := by decide +kernel
theorem dX6_prints_166 : decode cX6_prints 166 = .ok (.goto (-144), 3) := by decide +kernel
theorem dX6_prints_169 : decode cX6_prints 169 = .ok (.iconst 0, 1) := by decide +kernel
theorem dX6_prints_170 : decode cX6_prints 170 = .ok (.istore 5, 2) := by decide +kernel
theorem dX6_prints_172 : decode cX6_prints 172 = .ok (.iload 5, 2) := by decide +kernel
theorem dX6_prints_174 : decode cX6_prints 174 = .ok (.aload_n 0, 1) := by decide +kernel
theorem dX6_prints_175 : decode cX6_prints 175 = .ok (.getfield 185, 3) := by decide +kernel
theorem dX6_prints_178 : decode cX6_prints 178 = .ok (.if_icmp .ge 22, 3) := by decide +kernel
theorem dX6_prints_181 : decode cX6_prints 181 = .ok (.iload 4, 2) := by decide +kernel
theorem dX6_prints_183 : decode cX6_prints 183 = .ok (.ifCond .eq 17, 3) := by decide +kernel
theorem dX6_prints_186 : decode cX6_prints 186 = .ok (.aload_n 0, 1) := by decide +kernel
theorem dX6_prints_187 : decode cX6_prints 187 = .ok (.getfield 47, 3) := by decide +kernel
theorem dX6_prints_190 : decode cX6_prints 190 = .ok (.iload 5, 2) := by decide +kernel
theorem dX6_prints_192 : decode cX6_prints 192 = .ok (.iconst (-1), 1) := by decide +kernel
theorem dX6_prints_193 : decode cX6_prints 193 = .ok (.iastore, 1) := by decide +kernel
theorem dX6_prints_194 : decode cX6_prints 194 = .ok (.iinc 5 1, 3) := by decide +kernel
theorem dX6_prints_197 : decode cX6_prints 197 = .ok (.goto (-25), 3) := by decide +kernel
theorem dX6_prints_200 : decode cX6_prints 200 = .ok (.iload 4, 2) := by decide +kernel
theorem dX6_prints_202 : decode cX6_prints 202 = .ok (.ifCond .eq 7, 3) := by decide +kernel
theorem dX6_prints_205 : decode cX6_prints 205 = .ok (.iconst 0, 1) := by decide +kernel
theorem dX6_prints_206 : decode cX6_prints 206 = .ok (.goto 7, 3) := by decide +kernel
theorem dX6_prints_209 : decode cX6_prints 209 = .ok (.aload_n 0, 1) := by decide +kernel
theorem dX6_prints_210 : decode cX6_prints 210 = .ok (.getfield 182, 3) := by decide +kernel
theorem dX6_prints_213 : decode cX6_prints 213 = .ok (.ireturn, 1) := by decide +kernel
theorem dX6_faces_0 : decode cX6_faces 0 = .ok (.aload_n 0, 1) := by decide +kernel
theorem dX6_faces_1 : decode cX6_faces 1 = .ok (.iload_n 1, 1) := by decide +kernel
theorem dX6_faces_2 : decode cX6_faces 2 = .ok (.invokevirtual 161, 3) := by decide +kernel
theorem dX6_faces_5 : decode cX6_faces 5 = .ok (.ifCond .eq 17, 3) := by decide +kernel
theorem dX6_faces_8 : decode cX6_faces 8 = .ok (.aload_n 0, 1) := by decide +kernel
theorem dX6_faces_9 : decode cX6_faces 9 = .ok (.iload_n 1, 1) := by decide +kernel
theorem dX6_faces_10 : decode cX6_faces 10 = .ok (.aload_n 0, 1) := by decide +kernel
theorem dX6_faces_11 : decode cX6_faces 11 = .ok (.getfield 16, 3) := by decide +kernel
theorem dX6_faces_14 : decode cX6_faces 14 = .ok (.iconst 2, 1) := by decide +kernel
theorem dX6_faces_15 : decode cX6_faces 15 = .ok (.iaload, 1) := by decide +kernel
theorem dX6_faces_16 : decode cX6_faces 16 = .ok (.invokevirtual 198, 3) := by decide +kernel
theorem dX6_faces_19 : decode cX6_faces 19 = .ok (.goto 9, 3) := by decide +kernel
theorem dX6_faces_22 : decode cX6_faces 22 = .ok (.aload_n 0, 1) := by decide +kernel
theorem dX6_faces_23 : decode cX6_faces 23 = .ok (.bipush (-2), 2) := by decide +kernel
theorem dX6_faces_25 : decode cX6_faces 25 = .ok (.invokevirtual 68, 3) := by decide +kernel
theorem dX6_faces_28 : decode cX6_faces 28 = .ok (.ireturn, 1) := by decide +kernel
theorem dX6_contest_0 : decode cX6_contest 0 = .ok (.aload_n 0, 1) := by decide +kernel
theorem dX6_contest_1 : decode cX6_contest 1 = .ok (.iload_n 1, 1) := by decide +kernel
theorem dX6_contest_2 : decode cX6_contest 2 = .ok (.invokevirtual 161, 3) := by decide +kernel
theorem dX6_contest_5 : decode cX6_contest 5 = .ok (.ifCond .eq 16, 3) := by decide +kernel
theorem dX6_contest_8 : decode cX6_contest 8 = .ok (.iload_n 2, 1) := by decide +kernel
theorem dX6_contest_9 : decode cX6_contest 9 = .ok (.ifCond .lt 12, 3) := by decide +kernel
theorem dX6_contest_12 : decode cX6_contest 12 = .ok (.iload_n 3, 1) := by decide +kernel
theorem dX6_contest_13 : decode cX6_contest 13 = .ok (.iconst 0, 1) := by decide +kernel
theorem dX6_contest_14 : decode cX6_contest 14 = .ok (.iconst 3, 1) := by decide +kernel
theorem dX6_contest_15 : decode cX6_contest 15 = .ok (.invokestatic 53, 3) := by decide +kernel
theorem dX6_contest_18 : decode cX6_contest 18 = .ok (.ifCond .ne 10, 3) := by decide +kernel
theorem dX6_contest_21 : decode cX6_contest 21 = .ok (.aload_n 0, 1) := by decide +kernel
theorem dX6_contest_22 : decode cX6_contest 22 = .ok (.bipush (-2), 2) := by decide +kernel
theorem dX6_contest_24 : decode cX6_contest 24 = .ok (.invokevirtual 68, 3) := by decide +kernel
theorem dX6_contest_27 : decode cX6_contest 27 = .ok (.ireturn, 1) := by decide +kernel
theorem dX6_contest_28 : decode cX6_contest 28 = .ok (.aload_n 0, 1) := by decide +kernel
theorem dX6_contest_29 : decode cX6_contest 29 = .ok (.iload_n 1, 1) := by decide +kernel
theorem dX6_contest_30 : decode cX6_contest 30 = .ok (.aload_n 0, 1) := by decide +kernel
theorem dX6_contest_31 : decode cX6_contest 31 = .ok (.getfield 16, 3) := by decide +kernel
theorem dX6_contest_34 : decode cX6_contest 34 = .ok (.iconst 2, 1) := by decide +kernel
theorem dX6_contest_35 : decode cX6_contest 35 = .ok (.iaload, 1) := by decide +kernel
theorem dX6_contest_36 : decode cX6_contest 36 = .ok (.invokevirtual 198, 3) := by decide +kernel
theorem dX6_contest_39 : decode cX6_contest 39 = .ok (.pop, 1) := by decide +kernel
theorem dX6_contest_40 : decode cX6_contest 40 = .ok (.iload_n 2, 1) := by decide +kernel
theorem dX6_contest_41 : decode cX6_contest 41 = .ok (.aload_n 0, 1) := by decide +kernel
theorem dX6_contest_42 : decode cX6_contest 42 = .ok (.getfield 185, 3) := by decide +kernel
theorem dX6_contest_45 : decode cX6_contest 45 = .ok (.if_icmp .lt 5, 3) := by decide +kernel
theorem dX6_contest_48 : decode cX6_contest 48 = .ok (.iconst (-1), 1) := by decide +kernel
theorem dX6_contest_49 : decode cX6_contest 49 = .ok (.ireturn, 1) := by decide +kernel
theorem dX6_contest_50 : decode cX6_contest 50 = .ok (.aload_n 0, 1) := by decide +kernel
theorem dX6_contest_51 : decode cX6_contest 51 = .ok (.getfield 44, 3) := by decide +kernel
theorem dX6_contest_54 : decode cX6_contest 54 = .ok (.iload_n 2, 1) := by decide +kernel
theorem dX6_contest_55 : decode cX6_contest 55 = .ok (.iaload, 1) := by decide +kernel
theorem dX6_contest_56 : decode cX6_contest 56 = .ok (.istore 4, 2) := by decide +kernel
theorem dX6_contest_58 : decode cX6_contest 58 = .ok (.iload_n 3, 1) := by decide +kernel
theorem dX6_contest_59 : decode cX6_contest 59 = .ok (.ifCond .ne 8, 3) := by decide +kernel
theorem dX6_contest_62 : decode cX6_contest 62 = .ok (.iload 4, 2) := by decide +kernel
theorem dX6_contest_64 : decode cX6_contest 64 = .ok (.goto 44, 3) := by decide +kernel
theorem dX6_contest_67 : decode cX6_contest 67 = .ok (.iload_n 3, 1) := by decide +kernel
theorem dX6_contest_68 : decode cX6_contest 68 = .ok (.iconst 1, 1) := by decide +kernel
theorem dX6_contest_69 : decode cX6_contest 69 = .ok (.if_icmp .ne 18, 3) := by decide +kernel
theorem dX6_contest_72 : decode cX6_contest 72 = .ok (.aload_n 0, 1) := by decide +kernel
theorem dX6_contest_73 : decode cX6_contest 73 = .ok (.iload 4, 2) := by decide +kernel
theorem dX6_contest_75 : decode cX6_contest 75 = .ok (.aload_n 0, 1) := by decide +kernel
theorem dX6_contest_76 : decode cX6_contest 76 = .ok (.getfield 35, 3) := by decide +kernel
theorem dX6_contest_79 : decode cX6_contest 79 = .ok (.iload_n 1, 1) := by decide +kernel
theorem dX6_contest_80 : decode cX6_contest 80 = .ok (.iaload, 1) := by decide +kernel
theorem dX6_contest_81 : decode cX6_contest 81 = .ok (.invokevirtual 79, 3) := by decide +kernel
theorem dX6_contest_84 : decode cX6_contest 84 = .ok (.goto 24, 3) := by decide +kernel
theorem dX6_contest_87 : decode cX6_contest 87 = .ok (.iload_n 3, 1) := by decide +kernel
theorem dX6_contest_88 : decode cX6_contest 88 = .ok (.iconst 2, 1) := by decide +kernel
theorem dX6_contest_89 : decode cX6_contest 89 = .ok (.if_icmp .ne 13, 3) := by decide +kernel
theorem dX6_contest_92 : decode cX6_contest 92 = .ok (.aload_n 0, 1) := by decide +kernel
theorem dX6_contest_93 : decode cX6_contest 93 = .ok (.iload_n 1, 1) := by decide +kernel
theorem dX6_contest_94 : decode cX6_contest 94 = .ok (.iload 4, 2) := by decide +kernel
theorem dX6_contest_96 : decode cX6_contest 96 = .ok (.invokevirtual 191, 3) := by decide +kernel
theorem dX6_contest_99 : decode cX6_contest 99 = .ok (.goto 9, 3) := by decide +kernel
theorem dX6_contest_102 : decode cX6_contest 102 = .ok (.aload_n 0, 1) := by decide +kernel
theorem dX6_contest_103 : decode cX6_contest 103 = .ok (.getfield 47, 3) := by decide +kernel
theorem dX6_contest_106 : decode cX6_contest 106 = .ok (.iload_n 2, 1) := by decide +kernel
theorem dX6_contest_107 : decode cX6_contest 107 = .ok (.iaload, 1) := by decide +kernel
theorem dX6_contest_108 : decode cX6_contest 108 = .ok (.ireturn, 1) := by decide +kernel
theorem dX6_facesBy_0 : decode cX6_facesBy 0 = .ok (.iconst 0, 1) := by decide +kernel
theorem dX6_facesBy_1 : decode cX6_facesBy 1 = .ok (.istore_n 3, 1) := by decide +kernel
theorem dX6_facesBy_2 : decode cX6_facesBy 2 = .ok (.iconst 0, 1) := by decide +kernel
theorem dX6_facesBy_3 : decode cX6_facesBy 3 = .ok (.istore 4, 2) := by decide +kernel
theorem dX6_facesBy_5 : decode cX6_facesBy 5 = .ok (.iconst 0, 1) := by decide +kernel
theorem dX6_facesBy_6 : decode cX6_facesBy 6 = .ok (.istore 5, 2) := by decide +kernel
theorem dX6_facesBy_8 : decode cX6_facesBy 8 = .ok (.iload 5, 2) := by decide +kernel
theorem dX6_facesBy_10 : decode cX6_facesBy 10 = .ok (.aload_n 0, 1) := by decide +kernel
theorem dX6_facesBy_11 : decode cX6_facesBy 11 = .ok (.getfield 152, 3) := by decide +kernel
theorem dX6_facesBy_14 : decode cX6_facesBy 14 = .ok (.if_icmp .ge 47, 3) := by decide +kernel
theorem dX6_facesBy_17 : decode cX6_facesBy 17 = .ok (.aload_n 0, 1) := by decide +kernel
theorem dX6_facesBy_18 : decode cX6_facesBy 18 = .ok (.iload 5, 2) := by decide +kernel
theorem dX6_facesBy_20 : decode cX6_facesBy 20 = .ok (.iload_n 1, 1) := by decide +kernel
theorem dX6_facesBy_21 : decode cX6_facesBy 21 = .ok (.invokevirtual 198, 3) := by decide +kernel
theorem dX6_facesBy_24 : decode cX6_facesBy 24 = .ok (.istore 6, 2) := by decide +kernel
theorem dX6_facesBy_26 : decode cX6_facesBy 26 = .ok (.iload 4, 2) := by decide +kernel
theorem dX6_facesBy_28 : decode cX6_facesBy 28 = .ok (.ifCond .ne 8, 3) := by decide +kernel
theorem dX6_facesBy_31 : decode cX6_facesBy 31 = .ok (.iload 6, 2) := by decide +kernel
theorem dX6_facesBy_33 : decode cX6_facesBy 33 = .ok (.ifCond .ne 7, 3) := by decide +kernel
theorem dX6_facesBy_36 : decode cX6_facesBy 36 = .ok (.iconst 1, 1) := by decide +kernel
theorem dX6_facesBy_37 : decode cX6_facesBy 37 = .ok (.goto 4, 3) := by decide +kernel
theorem dX6_facesBy_40 : decode cX6_facesBy 40 = .ok (.iconst 0, 1) := by decide +kernel
theorem dX6_facesBy_41 : decode cX6_facesBy 41 = .ok (.istore 4, 2) := by decide +kernel
theorem dX6_facesBy_43 : decode cX6_facesBy 43 = .ok (.iload_n 3, 1) := by decide +kernel
theorem dX6_facesBy_44 : decode cX6_facesBy 44 = .ok (.iload 6, 2) := by decide +kernel
theorem dX6_facesBy_46 : decode cX6_facesBy 46 = .ok (.aload_n 0, 1) := by decide +kernel
theorem dX6_facesBy_47 : decode cX6_facesBy 47 = .ok (.iload 5, 2) := by decide +kernel
theorem dX6_facesBy_49 : decode cX6_facesBy 49 = .ok (.invokevirtual 167, 3) := by decide +kernel
theorem dX6_facesBy_52 : decode cX6_facesBy 52 = .ok (.imul, 1) := by decide +kernel
theorem dX6_facesBy_53 : decode cX6_facesBy 53 = .ok (.iadd, 1) := by decide +kernel
theorem dX6_facesBy_54 : decode cX6_facesBy 54 = .ok (.istore_n 3, 1) := by decide +kernel
theorem dX6_facesBy_55 : decode cX6_facesBy 55 = .ok (.iinc 5 1, 3) := by decide +kernel
theorem dX6_facesBy_58 : decode cX6_facesBy 58 = .ok (.goto (-50), 3) := by decide +kernel
theorem dX6_facesBy_61 : decode cX6_facesBy 61 = .ok (.iload 4, 2) := by decide +kernel
theorem dX6_facesBy_63 : decode cX6_facesBy 63 = .ok (.ifCond .eq 11, 3) := by decide +kernel
theorem dX6_facesBy_66 : decode cX6_facesBy 66 = .ok (.iload_n 2, 1) := by decide +kernel
theorem dX6_facesBy_67 : decode cX6_facesBy 67 = .ok (.ifCond .ne 7, 3) := by decide +kernel
theorem dX6_facesBy_70 : decode cX6_facesBy 70 = .ok (.iconst (-1), 1) := by decide +kernel
theorem dX6_facesBy_71 : decode cX6_facesBy 71 = .ok (.goto 4, 3) := by decide +kernel
theorem dX6_facesBy_74 : decode cX6_facesBy 74 = .ok (.iload_n 3, 1) := by decide +kernel
theorem dX6_facesBy_75 : decode cX6_facesBy 75 = .ok (.ireturn, 1) := by decide +kernel
theorem dX6_room_0 : decode cX6_room 0 = .ok (.aload_n 0, 1) := by decide +kernel
theorem dX6_room_1 : decode cX6_room 1 = .ok (.iload_n 1, 1) := by decide +kernel
theorem dX6_room_2 : decode cX6_room 2 = .ok (.invokevirtual 161, 3) := by decide +kernel
theorem dX6_room_5 : decode cX6_room 5 = .ok (.ifCond .eq 12, 3) := by decide +kernel
theorem dX6_room_8 : decode cX6_room 8 = .ok (.iload_n 2, 1) := by decide +kernel
theorem dX6_room_9 : decode cX6_room 9 = .ok (.iconst 0, 1) := by decide +kernel
theorem dX6_room_10 : decode cX6_room 10 = .ok (.iconst 1, 1) := by decide +kernel
theorem dX6_room_11 : decode cX6_room 11 = .ok (.invokestatic 53, 3) := by decide +kernel
theorem dX6_room_14 : decode cX6_room 14 = .ok (.ifCond .ne 10, 3) := by decide +kernel
theorem dX6_room_17 : decode cX6_room 17 = .ok (.aload_n 0, 1) := by decide +kernel
theorem dX6_room_18 : decode cX6_room 18 = .ok (.bipush (-2), 2) := by decide +kernel
theorem dX6_room_20 : decode cX6_room 20 = .ok (.invokevirtual 68, 3) := by decide +kernel
theorem dX6_room_23 : decode cX6_room 23 = .ok (.ireturn, 1) := by decide +kernel
theorem dX6_room_24 : decode cX6_room 24 = .ok (.iload_n 2, 1) := by decide +kernel
theorem dX6_room_25 : decode cX6_room 25 = .ok (.iconst 1, 1) := by decide +kernel
theorem dX6_room_26 : decode cX6_room 26 = .ok (.if_icmp .ne 15, 3) := by decide +kernel
theorem dX6_room_29 : decode cX6_room 29 = .ok (.aload_n 0, 1) := by decide +kernel
theorem dX6_room_30 : decode cX6_room 30 = .ok (.aload_n 0, 1) := by decide +kernel
theorem dX6_room_31 : decode cX6_room 31 = .ok (.getfield 16, 3) := by decide +kernel
theorem dX6_room_34 : decode cX6_room 34 = .ok (.iconst 2, 1) := by decide +kernel
theorem dX6_room_35 : decode cX6_room 35 = .ok (.iaload, 1) := by decide +kernel
theorem dX6_room_36 : decode cX6_room 36 = .ok (.iconst 1, 1) := by decide +kernel
theorem dX6_room_37 : decode cX6_room 37 = .ok (.invokevirtual 201, 3) := by decide +kernel
theorem dX6_room_40 : decode cX6_room 40 = .ok (.ireturn, 1) := by decide +kernel
theorem dX6_room_41 : decode cX6_room 41 = .ok (.aload_n 0, 1) := by decide +kernel
theorem dX6_room_42 : decode cX6_room 42 = .ok (.iload_n 1, 1) := by decide +kernel
theorem dX6_room_43 : decode cX6_room 43 = .ok (.aload_n 0, 1) := by decide +kernel
theorem dX6_room_44 : decode cX6_room 44 = .ok (.getfield 16, 3) := by decide +kernel
theorem dX6_room_47 : decode cX6_room 47 = .ok (.iconst 2, 1) := by decide +kernel
theorem dX6_room_48 : decode cX6_room 48 = .ok (.iaload, 1) := by decide +kernel
theorem dX6_room_49 : decode cX6_room 49 = .ok (.invokevirtual 198, 3) := by decide +kernel
theorem dX6_room_52 : decode cX6_room 52 = .ok (.ifCond .ne 5, 3) := by decide +kernel
theorem dX6_room_55 : decode cX6_room 55 = .ok (.iconst (-1), 1) := by decide +kernel
theorem dX6_room_56 : decode cX6_room 56 = .ok (.ireturn, 1) := by decide +kernel
theorem dX6_room_57 : decode cX6_room 57 = .ok (.iconst 0, 1) := by decide +kernel
theorem dX6_room_58 : decode cX6_room 58 = .ok (.istore_n 3, 1) := by decide +kernel
theorem dX6_room_59 : decode cX6_room 59 = .ok (.iconst 0, 1) := by decide +kernel
theorem dX6_room_60 : decode cX6_room 60 = .ok (.istore 4, 2) := by decide +kernel
theorem dX6_room_62 : decode cX6_room 62 = .ok (.iload 4, 2) := by decide +kernel
theorem dX6_room_64 : decode cX6_room 64 = .ok (.aload_n 0, 1) := by decide +kernel
theorem dX6_room_65 : decode cX6_room 65 = .ok (.getfield 16, 3) := by decide +kernel
theorem dX6_room_68 : decode cX6_room 68 = .ok (.iconst 0, 1) := by decide +kernel
theorem dX6_room_69 : decode cX6_room 69 = .ok (.iaload, 1) := by decide +kernel
theorem dX6_room_70 : decode cX6_room 70 = .ok (.aload_n 0, 1) := by decide +kernel
theorem dX6_room_71 : decode cX6_room 71 = .ok (.getfield 182, 3) := by decide +kernel
theorem dX6_room_74 : decode cX6_room 74 = .ok (.imul, 1) := by decide +kernel
theorem dX6_room_75 : decode cX6_room 75 = .ok (.if_icmp .ge 19, 3) := by decide +kernel
theorem dX6_room_78 : decode cX6_room 78 = .ok (.iload_n 3, 1) := by decide +kernel
theorem dX6_room_79 : decode cX6_room 79 = .ok (.aload_n 0, 1) := by decide +kernel
theorem dX6_room_80 : decode cX6_room 80 = .ok (.getfield 50, 3) := by decide +kernel
theorem dX6_room_83 : decode cX6_room 83 = .ok (.iload 4, 2) := by decide +kernel
theorem dX6_room_85 : decode cX6_room 85 = .ok (.iaload, 1) := by decide +kernel
theorem dX6_room_86 : decode cX6_room 86 = .ok (.iadd, 1) := by decide +kernel
theorem dX6_room_87 : decode cX6_room 87 = .ok (.istore_n 3, 1) := by decide +kernel
theorem dX6_room_88 : decode cX6_room 88 = .ok (.iinc 4 1, 3) := by decide +kernel
theorem dX6_room_91 : decode cX6_room 91 = .ok (.goto (-29), 3) := by decide +kernel
theorem dX6_room_94 : decode cX6_room 94 = .ok (.iload_n 3, 1) := by decide +kernel
theorem dX6_room_95 : decode cX6_room 95 = .ok (.ireturn, 1) := by decide +kernel
theorem dX6_rule_0 : decode cX6_rule 0 = .ok (.iload_n 1, 1) := by decide +kernel
theorem dX6_rule_1 : decode cX6_rule 1 = .ok (.iconst 0, 1) := by decide +kernel
theorem dX6_rule_2 : decode cX6_rule 2 = .ok (.iconst 1, 1) := by decide +kernel
theorem dX6_rule_3 : decode cX6_rule 3 = .ok (.invokestatic 53, 3) := by decide +kernel
theorem dX6_rule_6 : decode cX6_rule 6 = .ok (.ifCond .ne 10, 3) := by decide +kernel
theorem dX6_rule_9 : decode cX6_rule 9 = .ok (.aload_n 0, 1) := by decide +kernel
theorem dX6_rule_10 : decode cX6_rule 10 = .ok (.bipush (-2), 2) := by decide +kernel
theorem dX6_rule_12 : decode cX6_rule 12 = .ok (.invokevirtual 68, 3) := by decide +kernel
theorem dX6_rule_15 : decode cX6_rule 15 = .ok (.ireturn, 1) := by decide +kernel
theorem dX6_rule_16 : decode cX6_rule 16 = .ok (.aload_n 0, 1) := by decide +kernel
theorem dX6_rule_17 : decode cX6_rule 17 = .ok (.invokevirtual 112, 3) := by decide +kernel
theorem dX6_rule_20 : decode cX6_rule 20 = .ok (.iconst 0, 1) := by decide +kernel
theorem dX6_rule_21 : decode cX6_rule 21 = .ok (.istore_n 2, 1) := by decide +kernel
theorem dX6_rule_22 : decode cX6_rule 22 = .ok (.aload_n 0, 1) := by decide +kernel
theorem dX6_rule_23 : decode cX6_rule 23 = .ok (.iconst 0, 1) := by decide +kernel
theorem dX6_rule_24 : decode cX6_rule 24 = .ok (.iconst 0, 1) := by decide +kernel
theorem dX6_rule_25 : decode cX6_rule 25 = .ok (.invokevirtual 201, 3) := by decide +kernel
theorem dX6_rule_28 : decode cX6_rule 28 = .ok (.istore_n 3, 1) := by decide +kernel
theorem dX6_rule_29 : decode cX6_rule 29 = .ok (.iload_n 3, 1) := by decide +kernel
theorem dX6_rule_30 : decode cX6_rule 30 = .ok (.ifCond .ge 10, 3) := by decide +kernel
theorem dX6_rule_33 : decode cX6_rule 33 = .ok (.aload_n 0, 1) := by decide +kernel
theorem dX6_rule_34 : decode cX6_rule 34 = .ok (.bipush (-3), 2) := by decide +kernel
theorem dX6_rule_36 : decode cX6_rule 36 = .ok (.invokevirtual 68, 3) := by decide +kernel
theorem dX6_rule_39 : decode cX6_rule 39 = .ok (.ireturn, 1) := by decide +kernel
theorem dX6_rule_40 : decode cX6_rule 40 = .ok (.iconst 1, 1) := by decide +kernel
theorem dX6_rule_41 : decode cX6_rule 41 = .ok (.istore 4, 2) := by decide +kernel
theorem dX6_rule_43 : decode cX6_rule 43 = .ok (.iload 4, 2) := by decide +kernel
theorem dX6_rule_45 : decode cX6_rule 45 = .ok (.iconst 4, 1) := by decide +kernel
theorem dX6_rule_46 : decode cX6_rule 46 = .ok (.if_icmp .ge 44, 3) := by decide +kernel
theorem dX6_rule_49 : decode cX6_rule 49 = .ok (.aload_n 0, 1) := by decide +kernel
theorem dX6_rule_50 : decode cX6_rule 50 = .ok (.iload 4, 2) := by decide +kernel
theorem dX6_rule_52 : decode cX6_rule 52 = .ok (.iconst 0, 1) := by decide +kernel
theorem dX6_rule_53 : decode cX6_rule 53 = .ok (.invokevirtual 201, 3) := by decide +kernel
theorem dX6_rule_56 : decode cX6_rule 56 = .ok (.istore 5, 2) := by decide +kernel
theorem dX6_rule_58 : decode cX6_rule 58 = .ok (.iload 5, 2) := by decide +kernel
theorem dX6_rule_60 : decode cX6_rule 60 = .ok (.iload_n 3, 1) := by decide +kernel
theorem dX6_rule_61 : decode cX6_rule 61 = .ok (.if_icmp .ge 8, 3) := by decide +kernel
theorem dX6_rule_64 : decode cX6_rule 64 = .ok (.iload 4, 2) := by decide +kernel
theorem dX6_rule_66 : decode cX6_rule 66 = .ok (.goto 4, 3) := by decide +kernel
theorem dX6_rule_69 : decode cX6_rule 69 = .ok (.iload_n 2, 1) := by decide +kernel
theorem dX6_rule_70 : decode cX6_rule 70 = .ok (.istore_n 2, 1) := by decide +kernel
theorem dX6_rule_71 : decode cX6_rule 71 = .ok (.iload 5, 2) := by decide +kernel
theorem dX6_rule_73 : decode cX6_rule 73 = .ok (.iload_n 3, 1) := by decide +kernel
theorem dX6_rule_74 : decode cX6_rule 74 = .ok (.if_icmp .ge 8, 3) := by decide +kernel
theorem dX6_rule_77 : decode cX6_rule 77 = .ok (.iload 5, 2) := by decide +kernel
theorem dX6_rule_79 : decode cX6_rule 79 = .ok (.goto 4, 3) := by decide +kernel
theorem dX6_rule_82 : decode cX6_rule 82 = .ok (.iload_n 3, 1) := by decide +kernel
theorem dX6_rule_83 : decode cX6_rule 83 = .ok (.istore_n 3, 1) := by decide +kernel
theorem dX6_rule_84 : decode cX6_rule 84 = .ok (.iinc 4 1, 3) := by decide +kernel
theorem dX6_rule_87 : decode cX6_rule 87 = .ok (.goto (-44), 3) := by decide +kernel
theorem dX6_rule_90 : decode cX6_rule 90 = .ok (.iload_n 1, 1) := by decide +kernel
theorem dX6_rule_91 : decode cX6_rule 91 = .ok (.ifCond .ne 7, 3) := by decide +kernel
theorem dX6_rule_94 : decode cX6_rule 94 = .ok (.iload_n 2, 1) := by decide +kernel
theorem dX6_rule_95 : decode cX6_rule 95 = .ok (.goto 4, 3) := by decide +kernel
theorem dX6_rule_98 : decode cX6_rule 98 = .ok (.iload_n 3, 1) := by decide +kernel
theorem dX6_rule_99 : decode cX6_rule 99 = .ok (.ireturn, 1) := by decide +kernel
theorem dX6_rank_0 : decode cX6_rank 0 = .ok (.iconst 0, 1) := by decide +kernel
theorem dX6_rank_1 : decode cX6_rank 1 = .ok (.istore_n 3, 1) := by decide +kernel
theorem dX6_rank_2 : decode cX6_rank 2 = .ok (.iconst 0, 1) := by decide +kernel
theorem dX6_rank_3 : decode cX6_rank 3 = .ok (.istore 4, 2) := by decide +kernel
theorem dX6_rank_5 : decode cX6_rank 5 = .ok (.iload 4, 2) := by decide +kernel
theorem dX6_rank_7 : decode cX6_rank 7 = .ok (.iload_n 1, 1) := by decide +kernel
theorem dX6_rank_8 : decode cX6_rank 8 = .ok (.if_icmp .ge 33, 3) := by decide +kernel
theorem dX6_rank_11 : decode cX6_rank 11 = .ok (.iload_n 3, 1) := by decide +kernel
theorem dX6_rank_12 : decode cX6_rank 12 = .ok (.aload_n 0, 1) := by decide +kernel
theorem dX6_rank_13 : decode cX6_rank 13 = .ok (.iload_n 2, 1) := by decide +kernel
theorem dX6_rank_14 : decode cX6_rank 14 = .ok (.iload 4, 2) := by decide +kernel
theorem dX6_rank_16 : decode cX6_rank 16 = .ok (.invokevirtual 79, 3) := by decide +kernel
theorem dX6_rank_19 : decode cX6_rank 19 = .ok (.aload_n 0, 1) := by decide +kernel
theorem dX6_rank_20 : decode cX6_rank 20 = .ok (.iload_n 2, 1) := by decide +kernel
theorem dX6_rank_21 : decode cX6_rank 21 = .ok (.iload_n 1, 1) := by decide +kernel
theorem dX6_rank_22 : decode cX6_rank 22 = .ok (.invokevirtual 79, 3) := by decide +kernel
theorem dX6_rank_25 : decode cX6_rank 25 = .ok (.if_icmp .ne 7, 3) := by decide +kernel
theorem dX6_rank_28 : decode cX6_rank 28 = .ok (.iconst 1, 1) := by decide +kernel
theorem dX6_rank_29 : decode cX6_rank 29 = .ok (.goto 4, 3) := by decide +kernel
theorem dX6_rank_32 : decode cX6_rank 32 = .ok (.iconst 0, 1) := by decide +kernel
theorem dX6_rank_33 : decode cX6_rank 33 = .ok (.iadd, 1) := by decide +kernel
theorem dX6_rank_34 : decode cX6_rank 34 = .ok (.istore_n 3, 1) := by decide +kernel
theorem dX6_rank_35 : decode cX6_rank 35 = .ok (.iinc 4 1, 3) := by decide +kernel
theorem dX6_rank_38 : decode cX6_rank 38 = .ok (.goto (-33), 3) := by decide +kernel
theorem dX6_rank_41 : decode cX6_rank 41 = .ok (.iload_n 3, 1) := by decide +kernel
theorem dX6_rank_42 : decode cX6_rank 42 = .ok (.ireturn, 1) := by decide +kernel
theorem dX6_leader_0 : decode cX6_leader 0 = .ok (.aload_n 0, 1) := by decide +kernel
theorem dX6_leader_1 : decode cX6_leader 1 = .ok (.iload_n 1, 1) := by decide +kernel
theorem dX6_leader_2 : decode cX6_leader 2 = .ok (.iload_n 2, 1) := by decide +kernel
theorem dX6_leader_3 : decode cX6_leader 3 = .ok (.invokevirtual 205, 3) := by decide +kernel
theorem dX6_leader_6 : decode cX6_leader 6 = .ok (.aload_n 0, 1) := by decide +kernel
theorem dX6_leader_7 : decode cX6_leader 7 = .ok (.iload_n 2, 1) := by decide +kernel
theorem dX6_leader_8 : decode cX6_leader 8 = .ok (.aload_n 0, 1) := by decide +kernel
theorem dX6_leader_9 : decode cX6_leader 9 = .ok (.iload_n 2, 1) := by decide +kernel
theorem dX6_leader_10 : decode cX6_leader 10 = .ok (.iload_n 1, 1) := by decide +kernel
theorem dX6_leader_11 : decode cX6_leader 11 = .ok (.invokevirtual 79, 3) := by decide +kernel
theorem dX6_leader_14 : decode cX6_leader 14 = .ok (.invokevirtual 179, 3) := by decide +kernel
theorem dX6_leader_17 : decode cX6_leader 17 = .ok (.irem, 1) := by decide +kernel
theorem dX6_leader_18 : decode cX6_leader 18 = .ok (.ireturn, 1) := by decide +kernel
theorem dX6_leads_0 : decode cX6_leads 0 = .ok (.iload_n 1, 1) := by decide +kernel
theorem dX6_leads_1 : decode cX6_leads 1 = .ok (.invokestatic 85, 3) := by decide +kernel
theorem dX6_leads_4 : decode cX6_leads 4 = .ok (.ifCond .eq 10, 3) := by decide +kernel
theorem dX6_leads_7 : decode cX6_leads 7 = .ok (.iload_n 2, 1) := by decide +kernel
theorem dX6_leads_8 : decode cX6_leads 8 = .ok (.invokestatic 65, 3) := by decide +kernel
theorem dX6_leads_11 : decode cX6_leads 11 = .ok (.ifCond .ne 10, 3) := by decide +kernel
theorem dX6_leads_14 : decode cX6_leads 14 = .ok (.aload_n 0, 1) := by decide +kernel
theorem dX6_leads_15 : decode cX6_leads 15 = .ok (.bipush (-2), 2) := by decide +kernel
theorem dX6_leads_17 : decode cX6_leads 17 = .ok (.invokevirtual 68, 3) := by decide +kernel
theorem dX6_leads_20 : decode cX6_leads 20 = .ok (.ireturn, 1) := by decide +kernel
theorem dX6_leads_21 : decode cX6_leads 21 = .ok (.aload_n 0, 1) := by decide +kernel
theorem dX6_leads_22 : decode cX6_leads 22 = .ok (.iload_n 2, 1) := by decide +kernel
theorem dX6_leads_23 : decode cX6_leads 23 = .ok (.invokevirtual 61, 3) := by decide +kernel
theorem dX6_leads_26 : decode cX6_leads 26 = .ok (.ifCond .eq 12, 3) := by decide +kernel
theorem dX6_leads_29 : decode cX6_leads 29 = .ok (.aload_n 0, 1) := by decide +kernel
theorem dX6_leads_30 : decode cX6_leads 30 = .ok (.iload_n 1, 1) := by decide +kernel
theorem dX6_leads_31 : decode cX6_leads 31 = .ok (.iload_n 2, 1) := by decide +kernel
theorem dX6_leads_32 : decode cX6_leads 32 = .ok (.invokevirtual 208, 3) := by decide +kernel
theorem dX6_leads_35 : decode cX6_leads 35 = .ok (.goto 4, 3) := by decide +kernel
theorem dX6_leads_38 : decode cX6_leads 38 = .ok (.iconst (-1), 1) := by decide +kernel
theorem dX6_leads_39 : decode cX6_leads 39 = .ok (.ireturn, 1) := by decide +kernel
theorem dX6_leadOf_0 : decode cX6_leadOf 0 = .ok (.iconst 0, 1) := by decide +kernel
theorem dX6_leadOf_1 : decode cX6_leadOf 1 = .ok (.istore 5, 2) := by decide +kernel
theorem dX6_leadOf_3 : decode cX6_leadOf 3 = .ok (.iconst 0, 1) := by decide +kernel
theorem dX6_leadOf_4 : decode cX6_leadOf 4 = .ok (.istore 6, 2) := by decide +kernel
theorem dX6_leadOf_6 : decode cX6_leadOf 6 = .ok (.iload 6, 2) := by decide +kernel
theorem dX6_leadOf_8 : decode cX6_leadOf 8 = .ok (.bipush 24, 2) := by decide +kernel
theorem dX6_leadOf_10 : decode cX6_leadOf 10 = .ok (.if_icmp .ge 56, 3) := by decide +kernel
theorem dX6_leadOf_13 : decode cX6_leadOf 13 = .ok (.iload 5, 2) := by decide +kernel
theorem dX6_leadOf_15 : decode cX6_leadOf 15 = .ok (.aload_n 0, 1) := by decide +kernel
theorem dX6_leadOf_16 : decode cX6_leadOf 16 = .ok (.iload_n 1, 1) := by decide +kernel
theorem dX6_leadOf_17 : decode cX6_leadOf 17 = .ok (.iload 6, 2) := by decide +kernel
theorem dX6_leadOf_19 : decode cX6_leadOf 19 = .ok (.invokevirtual 79, 3) := by decide +kernel
theorem dX6_leadOf_22 : decode cX6_leadOf 22 = .ok (.iload_n 2, 1) := by decide +kernel
theorem dX6_leadOf_23 : decode cX6_leadOf 23 = .ok (.if_icmp .ne 33, 3) := by decide +kernel
theorem dX6_leadOf_26 : decode cX6_leadOf 26 = .ok (.aload_n 0, 1) := by decide +kernel
theorem dX6_leadOf_27 : decode cX6_leadOf 27 = .ok (.iload 6, 2) := by decide +kernel
theorem dX6_leadOf_29 : decode cX6_leadOf 29 = .ok (.iload_n 1, 1) := by decide +kernel
theorem dX6_leadOf_30 : decode cX6_leadOf 30 = .ok (.invokevirtual 208, 3) := by decide +kernel
theorem dX6_leadOf_33 : decode cX6_leadOf 33 = .ok (.iload_n 3, 1) := by decide +kernel
theorem dX6_leadOf_34 : decode cX6_leadOf 34 = .ok (.if_icmp .ne 22, 3) := by decide +kernel
theorem dX6_leadOf_37 : decode cX6_leadOf 37 = .ok (.iload 4, 2) := by decide +kernel
theorem dX6_leadOf_39 : decode cX6_leadOf 39 = .ok (.ifCond .eq 7, 3) := by decide +kernel
theorem dX6_leadOf_42 : decode cX6_leadOf 42 = .ok (.iconst 1, 1) := by decide +kernel
theorem dX6_leadOf_43 : decode cX6_leadOf 43 = .ok (.goto 14, 3) := by decide +kernel
theorem dX6_leadOf_46 : decode cX6_leadOf 46 = .ok (.aload_n 0, 1) := by decide +kernel
theorem dX6_leadOf_47 : decode cX6_leadOf 47 = .ok (.getfield 7, 3) := by decide +kernel
theorem dX6_leadOf_50 : decode cX6_leadOf 50 = .ok (.iload 6, 2) := by decide +kernel
theorem dX6_leadOf_52 : decode cX6_leadOf 52 = .ok (.iaload, 1) := by decide +kernel
theorem dX6_leadOf_53 : decode cX6_leadOf 53 = .ok (.goto 4, 3) := by decide +kernel
theorem dX6_leadOf_56 : decode cX6_leadOf 56 = .ok (.iconst 0, 1) := by decide +kernel
theorem dX6_leadOf_57 : decode cX6_leadOf 57 = .ok (.iadd, 1) := by decide +kernel
theorem dX6_leadOf_58 : decode cX6_leadOf 58 = .ok (.istore 5, 2) := by decide +kernel
theorem dX6_leadOf_60 : decode cX6_leadOf 60 = .ok (.iinc 6 1, 3) := by decide +kernel
theorem dX6_leadOf_63 : decode cX6_leadOf 63 = .ok (.goto (-57), 3) := by decide +kernel
theorem dX6_leadOf_66 : decode cX6_leadOf 66 = .ok (.iload 5, 2) := by decide +kernel
theorem dX6_leadOf_68 : decode cX6_leadOf 68 = .ok (.ireturn, 1) := by decide +kernel
theorem dX6_lead_0 : decode cX6_lead 0 = .ok (.iload_n 1, 1) := by decide +kernel
theorem dX6_lead_1 : decode cX6_lead 1 = .ok (.invokestatic 65, 3) := by decide +kernel
theorem dX6_lead_4 : decode cX6_lead 4 = .ok (.ifCond .eq 20, 3) := by decide +kernel
theorem dX6_lead_7 : decode cX6_lead 7 = .ok (.iload_n 2, 1) := by decide +kernel
theorem dX6_lead_8 : decode cX6_lead 8 = .ok (.invokestatic 82, 3) := by decide +kernel
theorem dX6_lead_11 : decode cX6_lead 11 = .ok (.ifCond .eq 13, 3) := by decide +kernel
theorem dX6_lead_14 : decode cX6_lead 14 = .ok (.iload_n 3, 1) := by decide +kernel
theorem dX6_lead_15 : decode cX6_lead 15 = .ok (.iconst 0, 1) := by decide +kernel
theorem dX6_lead_16 : decode cX6_lead 16 = .ok (.bipush 7, 2) := by decide +kernel
theorem dX6_lead_18 : decode cX6_lead 18 = .ok (.invokestatic 53, 3) := by decide +kernel
theorem dX6_lead_21 : decode cX6_lead 21 = .ok (.ifCond .ne 10, 3) := by decide +kernel
theorem dX6_lead_24 : decode cX6_lead 24 = .ok (.aload_n 0, 1) := by decide +kernel
theorem dX6_lead_25 : decode cX6_lead 25 = .ok (.bipush (-2), 2) := by decide +kernel
theorem dX6_lead_27 : decode cX6_lead 27 = .ok (.invokevirtual 68, 3) := by decide +kernel
theorem dX6_lead_30 : decode cX6_lead 30 = .ok (.ireturn, 1) := by decide +kernel
theorem dX6_lead_31 : decode cX6_lead 31 = .ok (.iload_n 3, 1) := by decide +kernel
theorem dX6_lead_32 : decode cX6_lead 32 = .ok (.aload_n 0, 1) := by decide +kernel
theorem dX6_lead_33 : decode cX6_lead 33 = .ok (.iload_n 1, 1) := by decide +kernel
theorem dX6_lead_34 : decode cX6_lead 34 = .ok (.iload_n 2, 1) := by decide +kernel
theorem dX6_lead_35 : decode cX6_lead 35 = .ok (.invokevirtual 179, 3) := by decide +kernel
theorem dX6_lead_38 : decode cX6_lead 38 = .ok (.if_icmp .ge 14, 3) := by decide +kernel
theorem dX6_lead_41 : decode cX6_lead 41 = .ok (.aload_n 0, 1) := by decide +kernel
theorem dX6_lead_42 : decode cX6_lead 42 = .ok (.iload_n 1, 1) := by decide +kernel
theorem dX6_lead_43 : decode cX6_lead 43 = .ok (.iload_n 2, 1) := by decide +kernel
theorem dX6_lead_44 : decode cX6_lead 44 = .ok (.iload_n 3, 1) := by decide +kernel
theorem dX6_lead_45 : decode cX6_lead 45 = .ok (.iconst 0, 1) := by decide +kernel
theorem dX6_lead_46 : decode cX6_lead 46 = .ok (.invokevirtual 211, 3) := by decide +kernel
theorem dX6_lead_49 : decode cX6_lead 49 = .ok (.goto 4, 3) := by decide +kernel
theorem dX6_lead_52 : decode cX6_lead 52 = .ok (.iconst (-1), 1) := by decide +kernel
theorem dX6_lead_53 : decode cX6_lead 53 = .ok (.ireturn, 1) := by decide +kernel
theorem dX6_fair_0 : decode cX6_fair 0 = .ok (.iload_n 1, 1) := by decide +kernel
theorem dX6_fair_1 : decode cX6_fair 1 = .ok (.invokestatic 65, 3) := by decide +kernel
theorem dX6_fair_4 : decode cX6_fair 4 = .ok (.ifCond .eq 19, 3) := by decide +kernel
theorem dX6_fair_7 : decode cX6_fair 7 = .ok (.iload_n 2, 1) := by decide +kernel
theorem dX6_fair_8 : decode cX6_fair 8 = .ok (.invokestatic 82, 3) := by decide +kernel
theorem dX6_fair_11 : decode cX6_fair 11 = .ok (.ifCond .eq 12, 3) := by decide +kernel
theorem dX6_fair_14 : decode cX6_fair 14 = .ok (.iload_n 3, 1) := by decide +kernel
theorem dX6_fair_15 : decode cX6_fair 15 = .ok (.iconst 0, 1) := by decide +kernel
theorem dX6_fair_16 : decode cX6_fair 16 = .ok (.iconst 1, 1) := by decide +kernel
theorem dX6_fair_17 : decode cX6_fair 17 = .ok (.invokestatic 53, 3) := by decide +kernel
theorem dX6_fair_20 : decode cX6_fair 20 = .ok (.ifCond .ne 10, 3) := by decide +kernel
theorem dX6_fair_23 : decode cX6_fair 23 = .ok (.aload_n 0, 1) := by decide +kernel
theorem dX6_fair_24 : decode cX6_fair 24 = .ok (.bipush (-2), 2) := by decide +kernel
theorem dX6_fair_26 : decode cX6_fair 26 = .ok (.invokevirtual 68, 3) := by decide +kernel
theorem dX6_fair_29 : decode cX6_fair 29 = .ok (.ireturn, 1) := by decide +kernel
theorem dX6_fair_30 : decode cX6_fair 30 = .ok (.iconst 0, 1) := by decide +kernel
theorem dX6_fair_31 : decode cX6_fair 31 = .ok (.istore 4, 2) := by decide +kernel
theorem dX6_fair_33 : decode cX6_fair 33 = .ok (.ldc 215, 2) := by decide +kernel
theorem dX6_fair_35 : decode cX6_fair 35 = .ok (.istore 5, 2) := by decide +kernel
theorem dX6_fair_37 : decode cX6_fair 37 = .ok (.iconst 0, 1) := by decide +kernel
theorem dX6_fair_38 : decode cX6_fair 38 = .ok (.istore 6, 2) := by decide +kernel
theorem dX6_fair_40 : decode cX6_fair 40 = .ok (.iload 6, 2) := by decide +kernel
theorem dX6_fair_42 : decode cX6_fair 42 = .ok (.aload_n 0, 1) := by decide +kernel
theorem dX6_fair_43 : decode cX6_fair 43 = .ok (.iload_n 1, 1) := by decide +kernel
theorem dX6_fair_44 : decode cX6_fair 44 = .ok (.iload_n 2, 1) := by decide +kernel
theorem dX6_fair_45 : decode cX6_fair 45 = .ok (.invokevirtual 179, 3) := by decide +kernel
theorem dX6_fair_48 : decode cX6_fair 48 = .ok (.if_icmp .ge 60, 3) := by decide +kernel
theorem dX6_fair_51 : decode cX6_fair 51 = .ok (.aload_n 0, 1) := by decide +kernel
theorem dX6_fair_52 : decode cX6_fair 52 = .ok (.iload_n 1, 1) := by decide +kernel
theorem dX6_fair_53 : decode cX6_fair 53 = .ok (.iload_n 2, 1) := by decide +kernel
theorem dX6_fair_54 : decode cX6_fair 54 = .ok (.iload 6, 2) := by decide +kernel
theorem dX6_fair_56 : decode cX6_fair 56 = .ok (.iload_n 3, 1) := by decide +kernel
theorem dX6_fair_57 : decode cX6_fair 57 = .ok (.ifCond .ne 7, 3) := by decide +kernel
theorem dX6_fair_60 : decode cX6_fair 60 = .ok (.iconst 1, 1) := by decide +kernel
theorem dX6_fair_61 : decode cX6_fair 61 = .ok (.goto 4, 3) := by decide +kernel
theorem dX6_fair_64 : decode cX6_fair 64 = .ok (.iconst 0, 1) := by decide +kernel
theorem dX6_fair_65 : decode cX6_fair 65 = .ok (.invokevirtual 211, 3) := by decide +kernel
theorem dX6_fair_68 : decode cX6_fair 68 = .ok (.istore 7, 2) := by decide +kernel
theorem dX6_fair_70 : decode cX6_fair 70 = .ok (.iload 7, 2) := by decide +kernel
theorem dX6_fair_72 : decode cX6_fair 72 = .ok (.iload 4, 2) := by decide +kernel
theorem dX6_fair_74 : decode cX6_fair 74 = .ok (.if_icmp .le 8, 3) := by decide +kernel
theorem dX6_fair_77 : decode cX6_fair 77 = .ok (.iload 7, 2) := by decide +kernel
theorem dX6_fair_79 : decode cX6_fair 79 = .ok (.goto 5, 3) := by decide +kernel
theorem dX6_fair_82 : decode cX6_fair 82 = .ok (.iload 4, 2) := by decide +kernel
theorem dX6_fair_84 : decode cX6_fair 84 = .ok (.istore 4, 2) := by decide +kernel
theorem dX6_fair_86 : decode cX6_fair 86 = .ok (.iload 7, 2) := by decide +kernel
theorem dX6_fair_88 : decode cX6_fair 88 = .ok (.iload 5, 2) := by decide +kernel
theorem dX6_fair_90 : decode cX6_fair 90 = .ok (.if_icmp .ge 8, 3) := by decide +kernel
theorem dX6_fair_93 : decode cX6_fair 93 = .ok (.iload 7, 2) := by decide +kernel
theorem dX6_fair_95 : decode cX6_fair 95 = .ok (.goto 5, 3) := by decide +kernel
theorem dX6_fair_98 : decode cX6_fair 98 = .ok (.iload 5, 2) := by decide +kernel
theorem dX6_fair_100 : decode cX6_fair 100 = .ok (.istore 5, 2) := by decide +kernel
theorem dX6_fair_102 : decode cX6_fair 102 = .ok (.iinc 6 1, 3) := by decide +kernel
theorem dX6_fair_105 : decode cX6_fair 105 = .ok (.goto (-65), 3) := by decide +kernel
theorem dX6_fair_108 : decode cX6_fair 108 = .ok (.iload 4, 2) := by decide +kernel
theorem dX6_fair_110 : decode cX6_fair 110 = .ok (.iload 5, 2) := by decide +kernel
theorem dX6_fair_112 : decode cX6_fair 112 = .ok (.isub, 1) := by decide +kernel
theorem dX6_fair_113 : decode cX6_fair 113 = .ok (.ireturn, 1) := by decide +kernel
theorem dX6_place_0 : decode cX6_place 0 = .ok (.iload_n 1, 1) := by decide +kernel
theorem dX6_place_1 : decode cX6_place 1 = .ok (.invokestatic 85, 3) := by decide +kernel
theorem dX6_place_4 : decode cX6_place 4 = .ok (.ifCond .eq 20, 3) := by decide +kernel
theorem dX6_place_7 : decode cX6_place 7 = .ok (.iload_n 2, 1) := by decide +kernel
theorem dX6_place_8 : decode cX6_place 8 = .ok (.invokestatic 65, 3) := by decide +kernel
theorem dX6_place_11 : decode cX6_place 11 = .ok (.ifCond .eq 13, 3) := by decide +kernel
theorem dX6_place_14 : decode cX6_place 14 = .ok (.iload_n 3, 1) := by decide +kernel
theorem dX6_place_15 : decode cX6_place 15 = .ok (.iconst 0, 1) := by decide +kernel
theorem dX6_place_16 : decode cX6_place 16 = .ok (.bipush 7, 2) := by decide +kernel
theorem dX6_place_18 : decode cX6_place 18 = .ok (.invokestatic 53, 3) := by decide +kernel
theorem dX6_place_21 : decode cX6_place 21 = .ok (.ifCond .ne 10, 3) := by decide +kernel
theorem dX6_place_24 : decode cX6_place 24 = .ok (.aload_n 0, 1) := by decide +kernel
theorem dX6_place_25 : decode cX6_place 25 = .ok (.bipush (-2), 2) := by decide +kernel
theorem dX6_place_27 : decode cX6_place 27 = .ok (.invokevirtual 68, 3) := by decide +kernel
theorem dX6_place_30 : decode cX6_place 30 = .ok (.ireturn, 1) := by decide +kernel
theorem dX6_place_31 : decode cX6_place 31 = .ok (.aload_n 0, 1) := by decide +kernel
theorem dX6_place_32 : decode cX6_place 32 = .ok (.iload_n 2, 1) := by decide +kernel
theorem dX6_place_33 : decode cX6_place 33 = .ok (.aload_n 0, 1) := by decide +kernel
theorem dX6_place_34 : decode cX6_place 34 = .ok (.iload_n 2, 1) := by decide +kernel
theorem dX6_place_35 : decode cX6_place 35 = .ok (.iload_n 1, 1) := by decide +kernel
theorem dX6_place_36 : decode cX6_place 36 = .ok (.invokevirtual 79, 3) := by decide +kernel
theorem dX6_place_39 : decode cX6_place 39 = .ok (.invokevirtual 179, 3) := by decide +kernel
theorem dX6_place_42 : decode cX6_place 42 = .ok (.istore 4, 2) := by decide +kernel
theorem dX6_place_44 : decode cX6_place 44 = .ok (.aload_n 0, 1) := by decide +kernel
theorem dX6_place_45 : decode cX6_place 45 = .ok (.iload_n 2, 1) := by decide +kernel
theorem dX6_place_46 : decode cX6_place 46 = .ok (.invokevirtual 61, 3) := by decide +kernel
theorem dX6_place_49 : decode cX6_place 49 = .ok (.ifCond .eq 26, 3) := by decide +kernel
theorem dX6_place_52 : decode cX6_place 52 = .ok (.iload_n 3, 1) := by decide +kernel
theorem dX6_place_53 : decode cX6_place 53 = .ok (.iload 4, 2) := by decide +kernel
theorem dX6_place_55 : decode cX6_place 55 = .ok (.if_icmp .ge 20, 3) := by decide +kernel
theorem dX6_place_58 : decode cX6_place 58 = .ok (.iload_n 3, 1) := by decide +kernel
theorem dX6_place_59 : decode cX6_place 59 = .ok (.iload 4, 2) := by decide +kernel
theorem dX6_place_61 : decode cX6_place 61 = .ok (.iadd, 1) := by decide +kernel
theorem dX6_place_62 : decode cX6_place 62 = .ok (.aload_n 0, 1) := by decide +kernel
theorem dX6_place_63 : decode cX6_place 63 = .ok (.iload_n 1, 1) := by decide +kernel
theorem dX6_place_64 : decode cX6_place 64 = .ok (.iload_n 2, 1) := by decide +kernel
theorem dX6_place_65 : decode cX6_place 65 = .ok (.invokevirtual 208, 3) := by decide +kernel
theorem dX6_place_68 : decode cX6_place 68 = .ok (.isub, 1) := by decide +kernel
theorem dX6_place_69 : decode cX6_place 69 = .ok (.iload 4, 2) := by decide +kernel
theorem dX6_place_71 : decode cX6_place 71 = .ok (.irem, 1) := by decide +kernel
theorem dX6_place_72 : decode cX6_place 72 = .ok (.goto 4, 3) := by decide +kernel
theorem dX6_place_75 : decode cX6_place 75 = .ok (.iconst (-1), 1) := by decide +kernel
theorem dX6_place_76 : decode cX6_place 76 = .ok (.ireturn, 1) := by decide +kernel
theorem dX6_toldOf_0 : decode cX6_toldOf 0 = .ok (.iload_n 1, 1) := by decide +kernel
theorem dX6_toldOf_1 : decode cX6_toldOf 1 = .ok (.tableswitch 77 0 8 #[51, 51, 51, 58, 77, 77, 77, 63, 72], 51) := by decide +kernel
theorem dX6_toldOf_52 : decode cX6_toldOf 52 = .ok (.aload_n 0, 1) := by decide +kernel
theorem dX6_toldOf_53 : decode cX6_toldOf 53 = .ok (.getfield 19, 3) := by decide +kernel
theorem dX6_toldOf_56 : decode cX6_toldOf 56 = .ok (.iload_n 1, 1) := by decide +kernel
theorem dX6_toldOf_57 : decode cX6_toldOf 57 = .ok (.iaload, 1) := by decide +kernel
theorem dX6_toldOf_58 : decode cX6_toldOf 58 = .ok (.ireturn, 1) := by decide +kernel
theorem dX6_toldOf_59 : decode cX6_toldOf 59 = .ok (.aload_n 0, 1) := by decide +kernel
theorem dX6_toldOf_60 : decode cX6_toldOf 60 = .ok (.getfield 115, 3) := by decide +kernel
theorem dX6_toldOf_63 : decode cX6_toldOf 63 = .ok (.ireturn, 1) := by decide +kernel
theorem dX6_toldOf_64 : decode cX6_toldOf 64 = .ok (.aload_n 0, 1) := by decide +kernel
theorem dX6_toldOf_65 : decode cX6_toldOf 65 = .ok (.getfield 7, 3) := by decide +kernel
theorem dX6_toldOf_68 : decode cX6_toldOf 68 = .ok (.sipush 144, 3) := by decide +kernel
theorem dX6_toldOf_71 : decode cX6_toldOf 71 = .ok (.iaload, 1) := by decide +kernel
theorem dX6_toldOf_72 : decode cX6_toldOf 72 = .ok (.ireturn, 1) := by decide +kernel
theorem dX6_toldOf_73 : decode cX6_toldOf 73 = .ok (.aload_n 0, 1) := by decide +kernel
theorem dX6_toldOf_74 : decode cX6_toldOf 74 = .ok (.getfield 57, 3) := by decide +kernel
theorem dX6_toldOf_77 : decode cX6_toldOf 77 = .ok (.ireturn, 1) := by decide +kernel
theorem dX6_toldOf_78 : decode cX6_toldOf 78 = .ok (.aload_n 0, 1) := by decide +kernel
theorem dX6_toldOf_79 : decode cX6_toldOf 79 = .ok (.getfield 16, 3) := by decide +kernel
theorem dX6_toldOf_82 : decode cX6_toldOf 82 = .ok (.iload_n 1, 1) := by decide +kernel
theorem dX6_toldOf_83 : decode cX6_toldOf 83 = .ok (.iconst 4, 1) := by decide +kernel
theorem dX6_toldOf_84 : decode cX6_toldOf 84 = .ok (.isub, 1) := by decide +kernel
theorem dX6_toldOf_85 : decode cX6_toldOf 85 = .ok (.iaload, 1) := by decide +kernel
theorem dX6_toldOf_86 : decode cX6_toldOf 86 = .ok (.ireturn, 1) := by decide +kernel
theorem dX6_told_0 : decode cX6_told 0 = .ok (.iload_n 1, 1) := by decide +kernel
theorem dX6_told_1 : decode cX6_told 1 = .ok (.iconst 0, 1) := by decide +kernel
theorem dX6_told_2 : decode cX6_told 2 = .ok (.bipush 8, 2) := by decide +kernel
theorem dX6_told_4 : decode cX6_told 4 = .ok (.invokestatic 53, 3) := by decide +kernel
theorem dX6_told_7 : decode cX6_told 7 = .ok (.ifCond .eq 11, 3) := by decide +kernel
theorem dX6_told_10 : decode cX6_told 10 = .ok (.aload_n 0, 1) := by decide +kernel
theorem dX6_told_11 : decode cX6_told 11 = .ok (.iload_n 1, 1) := by decide +kernel
theorem dX6_told_12 : decode cX6_told 12 = .ok (.invokevirtual 216, 3) := by decide +kernel
theorem dX6_told_15 : decode cX6_told 15 = .ok (.goto 9, 3) := by decide +kernel
theorem dX6_told_18 : decode cX6_told 18 = .ok (.aload_n 0, 1) := by decide +kernel
theorem dX6_told_19 : decode cX6_told 19 = .ok (.bipush (-2), 2) := by decide +kernel
theorem dX6_told_21 : decode cX6_told 21 = .ok (.invokevirtual 68, 3) := by decide +kernel
theorem dX6_told_24 : decode cX6_told 24 = .ok (.ireturn, 1) := by decide +kernel
theorem dX6_digest_0 : decode cX6_digest 0 = .ok (.ldc2_w 219, 3) := by decide +kernel
theorem dX6_digest_3 : decode cX6_digest 3 = .ok (.lstore_n 1, 1) := by decide +kernel
theorem dX6_digest_4 : decode cX6_digest 4 = .ok (.iconst 0, 1) := by decide +kernel
theorem dX6_digest_5 : decode cX6_digest 5 = .ok (.istore_n 3, 1) := by decide +kernel
theorem dX6_digest_6 : decode cX6_digest 6 = .ok (.iload_n 3, 1) := by decide +kernel
theorem dX6_digest_7 : decode cX6_digest 7 = .ok (.bipush 9, 2) := by decide +kernel
theorem dX6_digest_9 : decode cX6_digest 9 = .ok (.if_icmp .ge 22, 3) := by decide +kernel
theorem dX6_digest_12 : decode cX6_digest 12 = .ok (.ldc2_w 221, 3) := by decide +kernel
theorem dX6_digest_15 : decode cX6_digest 15 = .ok (.lload_n 1, 1) := by decide +kernel
theorem dX6_digest_16 : decode cX6_digest 16 = .ok (.lmul, 1) := by decide +kernel
theorem dX6_digest_17 : decode cX6_digest 17 = .ok (.aload_n 0, 1) := by decide +kernel
theorem dX6_digest_18 : decode cX6_digest 18 = .ok (.iload_n 3, 1) := by decide +kernel
theorem dX6_digest_19 : decode cX6_digest 19 = .ok (.invokevirtual 216, 3) := by decide +kernel
theorem dX6_digest_22 : decode cX6_digest 22 = .ok (.i2l, 1) := by decide +kernel
theorem dX6_digest_23 : decode cX6_digest 23 = .ok (.ladd, 1) := by decide +kernel
theorem dX6_digest_24 : decode cX6_digest 24 = .ok (.lstore_n 1, 1) := by decide +kernel
theorem dX6_digest_25 : decode cX6_digest 25 = .ok (.iinc 3 1, 3) := by decide +kernel
theorem dX6_digest_28 : decode cX6_digest 28 = .ok (.goto (-22), 3) := by decide +kernel
theorem dX6_digest_31 : decode cX6_digest 31 = .ok (.iconst 0, 1) := by decide +kernel
theorem dX6_digest_32 : decode cX6_digest 32 = .ok (.istore_n 3, 1) := by decide +kernel
theorem dX6_digest_33 : decode cX6_digest 33 = .ok (.iload_n 3, 1) := by decide +kernel
theorem dX6_digest_34 : decode cX6_digest 34 = .ok (.bipush 24, 2) := by decide +kernel
theorem dX6_digest_36 : decode cX6_digest 36 = .ok (.if_icmp .ge 53, 3) := by decide +kernel
theorem dX6_digest_39 : decode cX6_digest 39 = .ok (.ldc2_w 221, 3) := by decide +kernel
theorem dX6_digest_42 : decode cX6_digest 42 = .ok (.lload_n 1, 1) := by decide +kernel
theorem dX6_digest_43 : decode cX6_digest 43 = .ok (.lmul, 1) := by decide +kernel
theorem dX6_digest_44 : decode cX6_digest 44 = .ok (.aload_n 0, 1) := by decide +kernel
theorem dX6_digest_45 : decode cX6_digest 45 = .ok (.getfield 7, 3) := by decide +kernel
theorem dX6_digest_48 : decode cX6_digest 48 = .ok (.iload_n 3, 1) := by decide +kernel
theorem dX6_digest_49 : decode cX6_digest 49 = .ok (.iaload, 1) := by decide +kernel
theorem dX6_digest_50 : decode cX6_digest 50 = .ok (.i2l, 1) := by decide +kernel
theorem dX6_digest_51 : decode cX6_digest 51 = .ok (.ladd, 1) := by decide +kernel
theorem dX6_digest_52 : decode cX6_digest 52 = .ok (.lstore_n 1, 1) := by decide +kernel
theorem dX6_digest_53 : decode cX6_digest 53 = .ok (.iconst 0, 1) := by decide +kernel
theorem dX6_digest_54 : decode cX6_digest 54 = .ok (.istore 4, 2) := by decide +kernel
theorem dX6_digest_56 : decode cX6_digest 56 = .ok (.iload 4, 2) := by decide +kernel
theorem dX6_digest_58 : decode cX6_digest 58 = .ok (.iconst 4, 1) := by decide +kernel
theorem dX6_digest_59 : decode cX6_digest 59 = .ok (.if_icmp .ge 24, 3) := by decide +kernel
theorem dX6_digest_62 : decode cX6_digest 62 = .ok (.ldc2_w 221, 3) := by decide +kernel
theorem dX6_digest_65 : decode cX6_digest 65 = .ok (.lload_n 1, 1) := by decide +kernel
theorem dX6_digest_66 : decode cX6_digest 66 = .ok (.lmul, 1) := by decide +kernel
theorem dX6_digest_67 : decode cX6_digest 67 = .ok (.aload_n 0, 1) := by decide +kernel
theorem dX6_digest_68 : decode cX6_digest 68 = .ok (.iload 4, 2) := by decide +kernel
theorem dX6_digest_70 : decode cX6_digest 70 = .ok (.iload_n 3, 1) := by decide +kernel
theorem dX6_digest_71 : decode cX6_digest 71 = .ok (.invokevirtual 79, 3) := by decide +kernel
theorem dX6_digest_74 : decode cX6_digest 74 = .ok (.i2l, 1) := by decide +kernel
theorem dX6_digest_75 : decode cX6_digest 75 = .ok (.ladd, 1) := by decide +kernel
theorem dX6_digest_76 : decode cX6_digest 76 = .ok (.lstore_n 1, 1) := by decide +kernel
theorem dX6_digest_77 : decode cX6_digest 77 = .ok (.iinc 4 1, 3) := by decide +kernel
theorem dX6_digest_80 : decode cX6_digest 80 = .ok (.goto (-24), 3) := by decide +kernel
theorem dX6_digest_83 : decode cX6_digest 83 = .ok (.iinc 3 1, 3) := by decide +kernel
theorem dX6_digest_86 : decode cX6_digest 86 = .ok (.goto (-53), 3) := by decide +kernel
theorem dX6_digest_89 : decode cX6_digest 89 = .ok (.bipush 120, 2) := by decide +kernel
theorem dX6_digest_91 : decode cX6_digest 91 = .ok (.istore_n 3, 1) := by decide +kernel
theorem dX6_digest_92 : decode cX6_digest 92 = .ok (.iload_n 3, 1) := by decide +kernel
theorem dX6_digest_93 : decode cX6_digest 93 = .ok (.sipush 144, 3) := by decide +kernel
theorem dX6_digest_96 : decode cX6_digest 96 = .ok (.if_icmp .ge 23, 3) := by decide +kernel
theorem dX6_digest_99 : decode cX6_digest 99 = .ok (.ldc2_w 221, 3) := by decide +kernel
theorem dX6_digest_102 : decode cX6_digest 102 = .ok (.lload_n 1, 1) := by decide +kernel
theorem dX6_digest_103 : decode cX6_digest 103 = .ok (.lmul, 1) := by decide +kernel
theorem dX6_digest_104 : decode cX6_digest 104 = .ok (.aload_n 0, 1) := by decide +kernel
theorem dX6_digest_105 : decode cX6_digest 105 = .ok (.getfield 7, 3) := by decide +kernel
theorem dX6_digest_108 : decode cX6_digest 108 = .ok (.iload_n 3, 1) := by decide +kernel
theorem dX6_digest_109 : decode cX6_digest 109 = .ok (.iaload, 1) := by decide +kernel
theorem dX6_digest_110 : decode cX6_digest 110 = .ok (.i2l, 1) := by decide +kernel
theorem dX6_digest_111 : decode cX6_digest 111 = .ok (.ladd, 1) := by decide +kernel
theorem dX6_digest_112 : decode cX6_digest 112 = .ok (.lstore_n 1, 1) := by decide +kernel
theorem dX6_digest_113 : decode cX6_digest 113 = .ok (.iinc 3 1, 3) := by decide +kernel
theorem dX6_digest_116 : decode cX6_digest 116 = .ok (.goto (-24), 3) := by decide +kernel
theorem dX6_digest_119 : decode cX6_digest 119 = .ok (.aload_n 0, 1) := by decide +kernel
theorem dX6_digest_120 : decode cX6_digest 120 = .ok (.invokevirtual 176, 3) := by decide +kernel
theorem dX6_digest_123 : decode cX6_digest 123 = .ok (.istore_n 3, 1) := by decide +kernel
theorem dX6_digest_124 : decode cX6_digest 124 = .ok (.ldc2_w 221, 3) := by decide +kernel
theorem dX6_digest_127 : decode cX6_digest 127 = .ok (.lload_n 1, 1) := by decide +kernel
theorem dX6_digest_128 : decode cX6_digest 128 = .ok (.lmul, 1) := by decide +kernel
theorem dX6_digest_129 : decode cX6_digest 129 = .ok (.aload_n 0, 1) := by decide +kernel
theorem dX6_digest_130 : decode cX6_digest 130 = .ok (.getfield 152, 3) := by decide +kernel
theorem dX6_digest_133 : decode cX6_digest 133 = .ok (.i2l, 1) := by decide +kernel
theorem dX6_digest_134 : decode cX6_digest 134 = .ok (.ladd, 1) := by decide +kernel
theorem dX6_digest_135 : decode cX6_digest 135 = .ok (.lstore_n 1, 1) := by decide +kernel
theorem dX6_digest_136 : decode cX6_digest 136 = .ok (.ldc2_w 221, 3) := by decide +kernel
theorem dX6_digest_139 : decode cX6_digest 139 = .ok (.lload_n 1, 1) := by decide +kernel
theorem dX6_digest_140 : decode cX6_digest 140 = .ok (.lmul, 1) := by decide +kernel
theorem dX6_digest_141 : decode cX6_digest 141 = .ok (.iload_n 3, 1) := by decide +kernel
theorem dX6_digest_142 : decode cX6_digest 142 = .ok (.i2l, 1) := by decide +kernel
theorem dX6_digest_143 : decode cX6_digest 143 = .ok (.ladd, 1) := by decide +kernel
theorem dX6_digest_144 : decode cX6_digest 144 = .ok (.lstore_n 1, 1) := by decide +kernel
theorem dX6_digest_145 : decode cX6_digest 145 = .ok (.iconst 0, 1) := by decide +kernel
theorem dX6_digest_146 : decode cX6_digest 146 = .ok (.istore 4, 2) := by decide +kernel
theorem dX6_digest_148 : decode cX6_digest 148 = .ok (.iload 4, 2) := by decide +kernel
theorem dX6_digest_150 : decode cX6_digest 150 = .ok (.aload_n 0, 1) := by decide +kernel
theorem dX6_digest_151 : decode cX6_digest 151 = .ok (.getfield 152, 3) := by decide +kernel
theorem dX6_digest_154 : decode cX6_digest 154 = .ok (.if_icmp .ge 29, 3) := by decide +kernel
theorem dX6_digest_157 : decode cX6_digest 157 = .ok (.ldc2_w 221, 3) := by decide +kernel
theorem dX6_digest_160 : decode cX6_digest 160 = .ok (.lload_n 1, 1) := by decide +kernel
theorem dX6_digest_161 : decode cX6_digest 161 = .ok (.lmul, 1) := by decide +kernel
theorem dX6_digest_162 : decode cX6_digest 162 = .ok (.aload_n 0, 1) := by decide +kernel
theorem dX6_digest_163 : decode cX6_digest 163 = .ok (.iload 4, 2) := by decide +kernel
theorem dX6_digest_165 : decode cX6_digest 165 = .ok (.aload_n 0, 1) := by decide +kernel
theorem dX6_digest_166 : decode cX6_digest 166 = .ok (.getfield 16, 3) := by decide +kernel
theorem dX6_digest_169 : decode cX6_digest 169 = .ok (.iconst 2, 1) := by decide +kernel
theorem dX6_digest_170 : decode cX6_digest 170 = .ok (.iaload, 1) := by decide +kernel
theorem dX6_digest_171 : decode cX6_digest 171 = .ok (.invokevirtual 198, 3) := by decide +kernel
theorem dX6_digest_174 : decode cX6_digest 174 = .ok (.i2l, 1) := by decide +kernel
theorem dX6_digest_175 : decode cX6_digest 175 = .ok (.ladd, 1) := by decide +kernel
theorem dX6_digest_176 : decode cX6_digest 176 = .ok (.lstore_n 1, 1) := by decide +kernel
theorem dX6_digest_177 : decode cX6_digest 177 = .ok (.iinc 4 1, 3) := by decide +kernel
theorem dX6_digest_180 : decode cX6_digest 180 = .ok (.goto (-32), 3) := by decide +kernel
theorem dX6_digest_183 : decode cX6_digest 183 = .ok (.lload_n 1, 1) := by decide +kernel
theorem dX6_digest_184 : decode cX6_digest 184 = .ok (.lreturn, 1) := by decide +kernel
end
section
theorem dL_law_0 : decode cL_law 0 = .ok (.new 7, 3) := by decide +kernel
theorem dL_law_3 : decode cL_law 3 = .ok (.dup, 1) := by decide +kernel
theorem dL_law_4 : decode cL_law 4 = .ok (.invokespecial 9, 3) := by decide +kernel
theorem dL_law_7 : decode cL_law 7 = .ok (.astore_n 1, 1) := by decide +kernel
theorem dL_law_8 : decode cL_law 8 = .ok (.new 10, 3) := by decide +kernel
theorem dL_law_11 : decode cL_law 11 = .ok (.dup, 1) := by decide +kernel
theorem dL_law_12 : decode cL_law 12 = .ok (.invokespecial 12, 3) := by decide +kernel
theorem dL_law_15 : decode cL_law 15 = .ok (.astore_n 2, 1) := by decide +kernel
theorem dL_law_16 : decode cL_law 16 = .ok (.iconst 0, 1) := by decide +kernel
theorem dL_law_17 : decode cL_law 17 = .ok (.istore_n 3, 1) := by decide +kernel
theorem dL_law_18 : decode cL_law 18 = .ok (.iload_n 3, 1) := by decide +kernel
theorem dL_law_19 : decode cL_law 19 = .ok (.aload_n 0, 1) := by decide +kernel
theorem dL_law_20 : decode cL_law 20 = .ok (.arraylength, 1) := by decide +kernel
theorem dL_law_21 : decode cL_law 21 = .ok (.iconst 5, 1) := by decide +kernel
theorem dL_law_22 : decode cL_law 22 = .ok (.isub, 1) := by decide +kernel
theorem dL_law_23 : decode cL_law 23 = .ok (.if_icmp .gt 1015, 3) := by decide +kernel
theorem dL_law_26 : decode cL_law 26 = .ok (.aload_n 0, 1) := by decide +kernel
theorem dL_law_27 : decode cL_law 27 = .ok (.iload_n 3, 1) := by decide +kernel
theorem dL_law_28 : decode cL_law 28 = .ok (.iaload, 1) := by decide +kernel
theorem dL_law_29 : decode cL_law 29 = .ok (.bipush 31, 2) := by decide +kernel
theorem dL_law_31 : decode cL_law 31 = .ok (.iand, 1) := by decide +kernel
theorem dL_law_32 : decode cL_law 32 = .ok (.tableswitch 1000 0 28 #[132, 165, 218, 261, 294, 337, 380, 393, 426, 449, 462, 475, 488, 521, 544, 557, 590, 623, 646, 679, 702, 745, 778, 801, 834, 877, 920, 963, 986], 132) := by decide +kernel
theorem dL_law_164 : decode cL_law 164 = .ok (.aload_n 1, 1) := by decide +kernel
theorem dL_law_165 : decode cL_law 165 = .ok (.aload_n 0, 1) := by decide +kernel
theorem dL_law_166 : decode cL_law 166 = .ok (.iload_n 3, 1) := by decide +kernel
theorem dL_law_167 : decode cL_law 167 = .ok (.iconst 1, 1) := by decide +kernel
theorem dL_law_168 : decode cL_law 168 = .ok (.iadd, 1) := by decide +kernel
theorem dL_law_169 : decode cL_law 169 = .ok (.iaload, 1) := by decide +kernel
theorem dL_law_170 : decode cL_law 170 = .ok (.aload_n 0, 1) := by decide +kernel
theorem dL_law_171 : decode cL_law 171 = .ok (.iload_n 3, 1) := by decide +kernel
theorem dL_law_172 : decode cL_law 172 = .ok (.iconst 2, 1) := by decide +kernel
theorem dL_law_173 : decode cL_law 173 = .ok (.iadd, 1) := by decide +kernel
theorem dL_law_174 : decode cL_law 174 = .ok (.iaload, 1) := by decide +kernel
theorem dL_law_175 : decode cL_law 175 = .ok (.invokevirtual 13, 3) := by decide +kernel
theorem dL_law_178 : decode cL_law 178 = .ok (.aload_n 2, 1) := by decide +kernel
theorem dL_law_179 : decode cL_law 179 = .ok (.aload_n 0, 1) := by decide +kernel
theorem dL_law_180 : decode cL_law 180 = .ok (.iload_n 3, 1) := by decide +kernel
theorem dL_law_181 : decode cL_law 181 = .ok (.iconst 1, 1) := by decide +kernel
theorem dL_law_182 : decode cL_law 182 = .ok (.iadd, 1) := by decide +kernel
theorem dL_law_183 : decode cL_law 183 = .ok (.iaload, 1) := by decide +kernel
theorem dL_law_184 : decode cL_law 184 = .ok (.aload_n 0, 1) := by decide +kernel
theorem dL_law_185 : decode cL_law 185 = .ok (.iload_n 3, 1) := by decide +kernel
theorem dL_law_186 : decode cL_law 186 = .ok (.iconst 2, 1) := by decide +kernel
theorem dL_law_187 : decode cL_law 187 = .ok (.iadd, 1) := by decide +kernel
theorem dL_law_188 : decode cL_law 188 = .ok (.iaload, 1) := by decide +kernel
theorem dL_law_189 : decode cL_law 189 = .ok (.invokevirtual 17, 3) := by decide +kernel
theorem dL_law_192 : decode cL_law 192 = .ok (.if_icmp .eq 840, 3) := by decide +kernel
theorem dL_law_195 : decode cL_law 195 = .ok (.iconst 0, 1) := by decide +kernel
theorem dL_law_196 : decode cL_law 196 = .ok (.ireturn, 1) := by decide +kernel
theorem dL_law_197 : decode cL_law 197 = .ok (.aload_n 1, 1) := by decide +kernel
theorem dL_law_198 : decode cL_law 198 = .ok (.aload_n 0, 1) := by decide +kernel
theorem dL_law_199 : decode cL_law 199 = .ok (.iload_n 3, 1) := by decide +kernel
theorem dL_law_200 : decode cL_law 200 = .ok (.iconst 1, 1) := by decide +kernel
theorem dL_law_201 : decode cL_law 201 = .ok (.iadd, 1) := by decide +kernel
theorem dL_law_202 : decode cL_law 202 = .ok (.iaload, 1) := by decide +kernel
theorem dL_law_203 : decode cL_law 203 = .ok (.aload_n 0, 1) := by decide +kernel
theorem dL_law_204 : decode cL_law 204 = .ok (.iload_n 3, 1) := by decide +kernel
theorem dL_law_205 : decode cL_law 205 = .ok (.iconst 2, 1) := by decide +kernel
theorem dL_law_206 : decode cL_law 206 = .ok (.iadd, 1) := by decide +kernel
theorem dL_law_207 : decode cL_law 207 = .ok (.iaload, 1) := by decide +kernel
theorem dL_law_208 : decode cL_law 208 = .ok (.aload_n 0, 1) := by decide +kernel
theorem dL_law_209 : decode cL_law 209 = .ok (.iload_n 3, 1) := by decide +kernel
theorem dL_law_210 : decode cL_law 210 = .ok (.iconst 3, 1) := by decide +kernel
theorem dL_law_211 : decode cL_law 211 = .ok (.iadd, 1) := by decide +kernel
theorem dL_law_212 : decode cL_law 212 = .ok (.iaload, 1) := by decide +kernel
theorem dL_law_213 : decode cL_law 213 = .ok (.aload_n 0, 1) := by decide +kernel
theorem dL_law_214 : decode cL_law 214 = .ok (.iload_n 3, 1) := by decide +kernel
theorem dL_law_215 : decode cL_law 215 = .ok (.iconst 4, 1) := by decide +kernel
theorem dL_law_216 : decode cL_law 216 = .ok (.iadd, 1) := by decide +kernel
theorem dL_law_217 : decode cL_law 217 = .ok (.iaload, 1) := by decide +kernel
theorem dL_law_218 : decode cL_law 218 = .ok (.invokevirtual 18, 3) := by decide +kernel
theorem dL_law_221 : decode cL_law 221 = .ok (.aload_n 2, 1) := by decide +kernel
theorem dL_law_222 : decode cL_law 222 = .ok (.aload_n 0, 1) := by decide +kernel
theorem dL_law_223 : decode cL_law 223 = .ok (.iload_n 3, 1) := by decide +kernel
theorem dL_law_224 : decode cL_law 224 = .ok (.iconst 1, 1) := by decide +kernel
theorem dL_law_225 : decode cL_law 225 = .ok (.iadd, 1) := by decide +kernel
theorem dL_law_226 : decode cL_law 226 = .ok (.iaload, 1) := by decide +kernel
theorem dL_law_227 : decode cL_law 227 = .ok (.aload_n 0, 1) := by decide +kernel
theorem dL_law_228 : decode cL_law 228 = .ok (.iload_n 3, 1) := by decide +kernel
theorem dL_law_229 : decode cL_law 229 = .ok (.iconst 2, 1) := by decide +kernel
theorem dL_law_230 : decode cL_law 230 = .ok (.iadd, 1) := by decide +kernel
theorem dL_law_231 : decode cL_law 231 = .ok (.iaload, 1) := by decide +kernel
theorem dL_law_232 : decode cL_law 232 = .ok (.aload_n 0, 1) := by decide +kernel
theorem dL_law_233 : decode cL_law 233 = .ok (.iload_n 3, 1) := by decide +kernel
theorem dL_law_234 : decode cL_law 234 = .ok (.iconst 3, 1) := by decide +kernel
theorem dL_law_235 : decode cL_law 235 = .ok (.iadd, 1) := by decide +kernel
theorem dL_law_236 : decode cL_law 236 = .ok (.iaload, 1) := by decide +kernel
theorem dL_law_237 : decode cL_law 237 = .ok (.aload_n 0, 1) := by decide +kernel
theorem dL_law_238 : decode cL_law 238 = .ok (.iload_n 3, 1) := by decide +kernel
theorem dL_law_239 : decode cL_law 239 = .ok (.iconst 4, 1) := by decide +kernel
theorem dL_law_240 : decode cL_law 240 = .ok (.iadd, 1) := by decide +kernel
theorem dL_law_241 : decode cL_law 241 = .ok (.iaload, 1) := by decide +kernel
theorem dL_law_242 : decode cL_law 242 = .ok (.invokevirtual 22, 3) := by decide +kernel
theorem dL_law_245 : decode cL_law 245 = .ok (.if_icmp .eq 787, 3) := by decide +kernel
theorem dL_law_248 : decode cL_law 248 = .ok (.iconst 0, 1) := by decide +kernel
theorem dL_law_249 : decode cL_law 249 = .ok (.ireturn, 1) := by decide +kernel
theorem dL_law_250 : decode cL_law 250 = .ok (.aload_n 1, 1) := by decide +kernel
theorem dL_law_251 : decode cL_law 251 = .ok (.aload_n 0, 1) := by decide +kernel
theorem dL_law_252 : decode cL_law 252 = .ok (.iload_n 3, 1) := by decide +kernel
theorem dL_law_253 : decode cL_law 253 = .ok (.iconst 1, 1) := by decide +kernel
theorem dL_law_254 : decode cL_law 254 = .ok (.iadd, 1) := by decide +kernel
theorem dL_law_255 : decode cL_law 255 = .ok (.iaload, 1) := by decide +kernel
theorem dL_law_256 : decode cL_law 256 = .ok (.aload_n 0, 1) := by decide +kernel
theorem dL_law_257 : decode cL_law 257 = .ok (.iload_n 3, 1) := by decide +kernel
theorem dL_law_258 : decode cL_law 258 = .ok (.iconst 2, 1) := by decide +kernel
theorem dL_law_259 : decode cL_law 259 = .ok (.iadd, 1) := by decide +kernel
theorem dL_law_260 : decode cL_law 260 = .ok (.iaload, 1) := by decide +kernel
theorem dL_law_261 : decode cL_law 261 = .ok (.aload_n 0, 1) := by decide +kernel
theorem dL_law_262 : decode cL_law 262 = .ok (.iload_n 3, 1) := by decide +kernel
theorem dL_law_263 : decode cL_law 263 = .ok (.iconst 3, 1) := by decide +kernel
theorem dL_law_264 : decode cL_law 264 = .ok (.iadd, 1) := by decide +kernel
theorem dL_law_265 : decode cL_law 265 = .ok (.iaload, 1) := by decide +kernel
theorem dL_law_266 : decode cL_law 266 = .ok (.invokevirtual 23, 3) := by decide +kernel
theorem dL_law_269 : decode cL_law 269 = .ok (.aload_n 2, 1) := by decide +kernel
theorem dL_law_270 : decode cL_law 270 = .ok (.aload_n 0, 1) := by decide +kernel
theorem dL_law_271 : decode cL_law 271 = .ok (.iload_n 3, 1) := by decide +kernel
theorem dL_law_272 : decode cL_law 272 = .ok (.iconst 1, 1) := by decide +kernel
theorem dL_law_273 : decode cL_law 273 = .ok (.iadd, 1) := by decide +kernel
theorem dL_law_274 : decode cL_law 274 = .ok (.iaload, 1) := by decide +kernel
theorem dL_law_275 : decode cL_law 275 = .ok (.aload_n 0, 1) := by decide +kernel
theorem dL_law_276 : decode cL_law 276 = .ok (.iload_n 3, 1) := by decide +kernel
theorem dL_law_277 : decode cL_law 277 = .ok (.iconst 2, 1) := by decide +kernel
theorem dL_law_278 : decode cL_law 278 = .ok (.iadd, 1) := by decide +kernel
theorem dL_law_279 : decode cL_law 279 = .ok (.iaload, 1) := by decide +kernel
theorem dL_law_280 : decode cL_law 280 = .ok (.aload_n 0, 1) := by decide +kernel
theorem dL_law_281 : decode cL_law 281 = .ok (.iload_n 3, 1) := by decide +kernel
theorem dL_law_282 : decode cL_law 282 = .ok (.iconst 3, 1) := by decide +kernel
theorem dL_law_283 : decode cL_law 283 = .ok (.iadd, 1) := by decide +kernel
theorem dL_law_284 : decode cL_law 284 = .ok (.iaload, 1) := by decide +kernel
theorem dL_law_285 : decode cL_law 285 = .ok (.invokevirtual 27, 3) := by decide +kernel
theorem dL_law_288 : decode cL_law 288 = .ok (.if_icmp .eq 744, 3) := by decide +kernel
theorem dL_law_291 : decode cL_law 291 = .ok (.iconst 0, 1) := by decide +kernel
theorem dL_law_292 : decode cL_law 292 = .ok (.ireturn, 1) := by decide +kernel
theorem dL_law_293 : decode cL_law 293 = .ok (.aload_n 1, 1) := by decide +kernel
theorem dL_law_294 : decode cL_law 294 = .ok (.aload_n 0, 1) := by decide +kernel
theorem dL_law_295 : decode cL_law 295 = .ok (.iload_n 3, 1) := by decide +kernel
theorem dL_law_296 : decode cL_law 296 = .ok (.iconst 1, 1) := by decide +kernel
theorem dL_law_297 : decode cL_law 297 = .ok (.iadd, 1) := by decide +kernel
theorem dL_law_298 : decode cL_law 298 = .ok (.iaload, 1) := by decide +kernel
theorem dL_law_299 : decode cL_law 299 = .ok (.aload_n 0, 1) := by decide +kernel
theorem dL_law_300 : decode cL_law 300 = .ok (.iload_n 3, 1) := by decide +kernel
theorem dL_law_301 : decode cL_law 301 = .ok (.iconst 2, 1) := by decide +kernel
theorem dL_law_302 : decode cL_law 302 = .ok (.iadd, 1) := by decide +kernel
theorem dL_law_303 : decode cL_law 303 = .ok (.iaload, 1) := by decide +kernel
theorem dL_law_304 : decode cL_law 304 = .ok (.invokevirtual 28, 3) := by decide +kernel
theorem dL_law_307 : decode cL_law 307 = .ok (.aload_n 2, 1) := by decide +kernel
theorem dL_law_308 : decode cL_law 308 = .ok (.aload_n 0, 1) := by decide +kernel
theorem dL_law_309 : decode cL_law 309 = .ok (.iload_n 3, 1) := by decide +kernel
theorem dL_law_310 : decode cL_law 310 = .ok (.iconst 1, 1) := by decide +kernel
theorem dL_law_311 : decode cL_law 311 = .ok (.iadd, 1) := by decide +kernel
theorem dL_law_312 : decode cL_law 312 = .ok (.iaload, 1) := by decide +kernel
theorem dL_law_313 : decode cL_law 313 = .ok (.aload_n 0, 1) := by decide +kernel
theorem dL_law_314 : decode cL_law 314 = .ok (.iload_n 3, 1) := by decide +kernel
theorem dL_law_315 : decode cL_law 315 = .ok (.iconst 2, 1) := by decide +kernel
theorem dL_law_316 : decode cL_law 316 = .ok (.iadd, 1) := by decide +kernel
theorem dL_law_317 : decode cL_law 317 = .ok (.iaload, 1) := by decide +kernel
theorem dL_law_318 : decode cL_law 318 = .ok (.invokevirtual 31, 3) := by decide +kernel
theorem dL_law_321 : decode cL_law 321 = .ok (.if_icmp .eq 711, 3) := by decide +kernel
theorem dL_law_324 : decode cL_law 324 = .ok (.iconst 0, 1) := by decide +kernel
theorem dL_law_325 : decode cL_law 325 = .ok (.ireturn, 1) := by decide +kernel
theorem dL_law_326 : decode cL_law 326 = .ok (.aload_n 1, 1) := by decide +kernel
theorem dL_law_327 : decode cL_law 327 = .ok (.aload_n 0, 1) := by decide +kernel
theorem dL_law_328 : decode cL_law 328 = .ok (.iload_n 3, 1) := by decide +kernel
theorem dL_law_329 : decode cL_law 329 = .ok (.iconst 1, 1) := by decide +kernel
theorem dL_law_330 : decode cL_law 330 = .ok (.iadd, 1) := by decide +kernel
theorem dL_law_331 : decode cL_law 331 = .ok (.iaload, 1) := by decide +kernel
theorem dL_law_332 : decode cL_law 332 = .ok (.aload_n 0, 1) := by decide +kernel
theorem dL_law_333 : decode cL_law 333 = .ok (.iload_n 3, 1) := by decide +kernel
theorem dL_law_334 : decode cL_law 334 = .ok (.iconst 2, 1) := by decide +kernel
theorem dL_law_335 : decode cL_law 335 = .ok (.iadd, 1) := by decide +kernel
theorem dL_law_336 : decode cL_law 336 = .ok (.iaload, 1) := by decide +kernel
theorem dL_law_337 : decode cL_law 337 = .ok (.aload_n 0, 1) := by decide +kernel
theorem dL_law_338 : decode cL_law 338 = .ok (.iload_n 3, 1) := by decide +kernel
theorem dL_law_339 : decode cL_law 339 = .ok (.iconst 3, 1) := by decide +kernel
theorem dL_law_340 : decode cL_law 340 = .ok (.iadd, 1) := by decide +kernel
theorem dL_law_341 : decode cL_law 341 = .ok (.iaload, 1) := by decide +kernel
theorem dL_law_342 : decode cL_law 342 = .ok (.invokevirtual 32, 3) := by decide +kernel
theorem dL_law_345 : decode cL_law 345 = .ok (.aload_n 2, 1) := by decide +kernel
theorem dL_law_346 : decode cL_law 346 = .ok (.aload_n 0, 1) := by decide +kernel
theorem dL_law_347 : decode cL_law 347 = .ok (.iload_n 3, 1) := by decide +kernel
theorem dL_law_348 : decode cL_law 348 = .ok (.iconst 1, 1) := by decide +kernel
theorem dL_law_349 : decode cL_law 349 = .ok (.iadd, 1) := by decide +kernel
theorem dL_law_350 : decode cL_law 350 = .ok (.iaload, 1) := by decide +kernel
theorem dL_law_351 : decode cL_law 351 = .ok (.aload_n 0, 1) := by decide +kernel
theorem dL_law_352 : decode cL_law 352 = .ok (.iload_n 3, 1) := by decide +kernel
theorem dL_law_353 : decode cL_law 353 = .ok (.iconst 2, 1) := by decide +kernel
theorem dL_law_354 : decode cL_law 354 = .ok (.iadd, 1) := by decide +kernel
theorem dL_law_355 : decode cL_law 355 = .ok (.iaload, 1) := by decide +kernel
theorem dL_law_356 : decode cL_law 356 = .ok (.aload_n 0, 1) := by decide +kernel
theorem dL_law_357 : decode cL_law 357 = .ok (.iload_n 3, 1) := by decide +kernel
theorem dL_law_358 : decode cL_law 358 = .ok (.iconst 3, 1) := by decide +kernel
theorem dL_law_359 : decode cL_law 359 = .ok (.iadd, 1) := by decide +kernel
theorem dL_law_360 : decode cL_law 360 = .ok (.iaload, 1) := by decide +kernel
theorem dL_law_361 : decode cL_law 361 = .ok (.invokevirtual 35, 3) := by decide +kernel
theorem dL_law_364 : decode cL_law 364 = .ok (.if_icmp .eq 668, 3) := by decide +kernel
theorem dL_law_367 : decode cL_law 367 = .ok (.iconst 0, 1) := by decide +kernel
theorem dL_law_368 : decode cL_law 368 = .ok (.ireturn, 1) := by decide +kernel
theorem dL_law_369 : decode cL_law 369 = .ok (.aload_n 1, 1) := by decide +kernel
theorem dL_law_370 : decode cL_law 370 = .ok (.aload_n 0, 1) := by decide +kernel
theorem dL_law_371 : decode cL_law 371 = .ok (.iload_n 3, 1) := by decide +kernel
theorem dL_law_372 : decode cL_law 372 = .ok (.iconst 1, 1) := by decide +kernel
theorem dL_law_373 : decode cL_law 373 = .ok (.iadd, 1) := by decide +kernel
theorem dL_law_374 : decode cL_law 374 = .ok (.iaload, 1) := by decide +kernel
theorem dL_law_375 : decode cL_law 375 = .ok (.aload_n 0, 1) := by decide +kernel
theorem dL_law_376 : decode cL_law 376 = .ok (.iload_n 3, 1) := by decide +kernel
theorem dL_law_377 : decode cL_law 377 = .ok (.iconst 2, 1) := by decide +kernel
theorem dL_law_378 : decode cL_law 378 = .ok (.iadd, 1) := by decide +kernel
theorem dL_law_379 : decode cL_law 379 = .ok (.iaload, 1) := by decide +kernel
theorem dL_law_380 : decode cL_law 380 = .ok (.aload_n 0, 1) := by decide +kernel
theorem dL_law_381 : decode cL_law 381 = .ok (.iload_n 3, 1) := by decide +kernel
theorem dL_law_382 : decode cL_law 382 = .ok (.iconst 3, 1) := by decide +kernel
theorem dL_law_383 : decode cL_law 383 = .ok (.iadd, 1) := by decide +kernel
theorem dL_law_384 : decode cL_law 384 = .ok (.iaload, 1) := by decide +kernel
theorem dL_law_385 : decode cL_law 385 = .ok (.invokevirtual 36, 3) := by decide +kernel
theorem dL_law_388 : decode cL_law 388 = .ok (.aload_n 2, 1) := by decide +kernel
theorem dL_law_389 : decode cL_law 389 = .ok (.aload_n 0, 1) := by decide +kernel
theorem dL_law_390 : decode cL_law 390 = .ok (.iload_n 3, 1) := by decide +kernel
theorem dL_law_391 : decode cL_law 391 = .ok (.iconst 1, 1) := by decide +kernel
theorem dL_law_392 : decode cL_law 392 = .ok (.iadd, 1) := by decide +kernel
theorem dL_law_393 : decode cL_law 393 = .ok (.iaload, 1) := by decide +kernel
theorem dL_law_394 : decode cL_law 394 = .ok (.aload_n 0, 1) := by decide +kernel
theorem dL_law_395 : decode cL_law 395 = .ok (.iload_n 3, 1) := by decide +kernel
theorem dL_law_396 : decode cL_law 396 = .ok (.iconst 2, 1) := by decide +kernel
theorem dL_law_397 : decode cL_law 397 = .ok (.iadd, 1) := by decide +kernel
theorem dL_law_398 : decode cL_law 398 = .ok (.iaload, 1) := by decide +kernel
theorem dL_law_399 : decode cL_law 399 = .ok (.aload_n 0, 1) := by decide +kernel
theorem dL_law_400 : decode cL_law 400 = .ok (.iload_n 3, 1) := by decide +kernel
theorem dL_law_401 : decode cL_law 401 = .ok (.iconst 3, 1) := by decide +kernel
theorem dL_law_402 : decode cL_law 402 = .ok (.iadd, 1) := by decide +kernel
theorem dL_law_403 : decode cL_law 403 = .ok (.iaload, 1) := by decide +kernel
theorem dL_law_404 : decode cL_law 404 = .ok (.invokevirtual 39, 3) := by decide +kernel
theorem dL_law_407 : decode cL_law 407 = .ok (.if_icmp .eq 625, 3) := by decide +kernel
theorem dL_law_410 : decode cL_law 410 = .ok (.iconst 0, 1) := by decide +kernel
theorem dL_law_411 : decode cL_law 411 = .ok (.ireturn, 1) := by decide +kernel
theorem dL_law_412 : decode cL_law 412 = .ok (.aload_n 1, 1) := by decide +kernel
theorem dL_law_413 : decode cL_law 413 = .ok (.invokevirtual 40, 3) := by decide +kernel
theorem dL_law_416 : decode cL_law 416 = .ok (.aload_n 2, 1) := by decide +kernel
theorem dL_law_417 : decode cL_law 417 = .ok (.invokevirtual 44, 3) := by decide +kernel
theorem dL_law_420 : decode cL_law 420 = .ok (.if_icmp .eq 612, 3) := by decide +kernel
theorem dL_law_423 : decode cL_law 423 = .ok (.iconst 0, 1) := by decide +kernel
theorem dL_law_424 : decode cL_law 424 = .ok (.ireturn, 1) := by decide +kernel
theorem dL_law_425 : decode cL_law 425 = .ok (.aload_n 1, 1) := by decide +kernel
theorem dL_law_426 : decode cL_law 426 = .ok (.aload_n 0, 1) := by decide +kernel
theorem dL_law_427 : decode cL_law 427 = .ok (.iload_n 3, 1) := by decide +kernel
theorem dL_law_428 : decode cL_law 428 = .ok (.iconst 1, 1) := by decide +kernel
theorem dL_law_429 : decode cL_law 429 = .ok (.iadd, 1) := by decide +kernel
theorem dL_law_430 : decode cL_law 430 = .ok (.iaload, 1) := by decide +kernel
theorem dL_law_431 : decode cL_law 431 = .ok (.aload_n 0, 1) := by decide +kernel
theorem dL_law_432 : decode cL_law 432 = .ok (.iload_n 3, 1) := by decide +kernel
theorem dL_law_433 : decode cL_law 433 = .ok (.iconst 2, 1) := by decide +kernel
theorem dL_law_434 : decode cL_law 434 = .ok (.iadd, 1) := by decide +kernel
theorem dL_law_435 : decode cL_law 435 = .ok (.iaload, 1) := by decide +kernel
theorem dL_law_436 : decode cL_law 436 = .ok (.invokevirtual 45, 3) := by decide +kernel
theorem dL_law_439 : decode cL_law 439 = .ok (.aload_n 2, 1) := by decide +kernel
theorem dL_law_440 : decode cL_law 440 = .ok (.aload_n 0, 1) := by decide +kernel
theorem dL_law_441 : decode cL_law 441 = .ok (.iload_n 3, 1) := by decide +kernel
theorem dL_law_442 : decode cL_law 442 = .ok (.iconst 1, 1) := by decide +kernel
theorem dL_law_443 : decode cL_law 443 = .ok (.iadd, 1) := by decide +kernel
theorem dL_law_444 : decode cL_law 444 = .ok (.iaload, 1) := by decide +kernel
theorem dL_law_445 : decode cL_law 445 = .ok (.aload_n 0, 1) := by decide +kernel
theorem dL_law_446 : decode cL_law 446 = .ok (.iload_n 3, 1) := by decide +kernel
theorem dL_law_447 : decode cL_law 447 = .ok (.iconst 2, 1) := by decide +kernel
theorem dL_law_448 : decode cL_law 448 = .ok (.iadd, 1) := by decide +kernel
theorem dL_law_449 : decode cL_law 449 = .ok (.iaload, 1) := by decide +kernel
theorem dL_law_450 : decode cL_law 450 = .ok (.invokevirtual 48, 3) := by decide +kernel
theorem dL_law_453 : decode cL_law 453 = .ok (.if_icmp .eq 579, 3) := by decide +kernel
theorem dL_law_456 : decode cL_law 456 = .ok (.iconst 0, 1) := by decide +kernel
theorem dL_law_457 : decode cL_law 457 = .ok (.ireturn, 1) := by decide +kernel
theorem dL_law_458 : decode cL_law 458 = .ok (.aload_n 1, 1) := by decide +kernel
theorem dL_law_459 : decode cL_law 459 = .ok (.aload_n 0, 1) := by decide +kernel
theorem dL_law_460 : decode cL_law 460 = .ok (.iload_n 3, 1) := by decide +kernel
theorem dL_law_461 : decode cL_law 461 = .ok (.iconst 1, 1) := by decide +kernel
theorem dL_law_462 : decode cL_law 462 = .ok (.iadd, 1) := by decide +kernel
theorem dL_law_463 : decode cL_law 463 = .ok (.iaload, 1) := by decide +kernel
theorem dL_law_464 : decode cL_law 464 = .ok (.invokevirtual 49, 3) := by decide +kernel
theorem dL_law_467 : decode cL_law 467 = .ok (.aload_n 2, 1) := by decide +kernel
theorem dL_law_468 : decode cL_law 468 = .ok (.aload_n 0, 1) := by decide +kernel
theorem dL_law_469 : decode cL_law 469 = .ok (.iload_n 3, 1) := by decide +kernel
theorem dL_law_470 : decode cL_law 470 = .ok (.iconst 1, 1) := by decide +kernel
theorem dL_law_471 : decode cL_law 471 = .ok (.iadd, 1) := by decide +kernel
theorem dL_law_472 : decode cL_law 472 = .ok (.iaload, 1) := by decide +kernel
theorem dL_law_473 : decode cL_law 473 = .ok (.invokevirtual 53, 3) := by decide +kernel
theorem dL_law_476 : decode cL_law 476 = .ok (.if_icmp .eq 556, 3) := by decide +kernel
theorem dL_law_479 : decode cL_law 479 = .ok (.iconst 0, 1) := by decide +kernel
theorem dL_law_480 : decode cL_law 480 = .ok (.ireturn, 1) := by decide +kernel
theorem dL_law_481 : decode cL_law 481 = .ok (.aload_n 1, 1) := by decide +kernel
theorem dL_law_482 : decode cL_law 482 = .ok (.invokevirtual 54, 3) := by decide +kernel
theorem dL_law_485 : decode cL_law 485 = .ok (.aload_n 2, 1) := by decide +kernel
theorem dL_law_486 : decode cL_law 486 = .ok (.invokevirtual 57, 3) := by decide +kernel
theorem dL_law_489 : decode cL_law 489 = .ok (.if_icmp .eq 543, 3) := by decide +kernel
theorem dL_law_492 : decode cL_law 492 = .ok (.iconst 0, 1) := by decide +kernel
theorem dL_law_493 : decode cL_law 493 = .ok (.ireturn, 1) := by decide +kernel
theorem dL_law_494 : decode cL_law 494 = .ok (.aload_n 1, 1) := by decide +kernel
theorem dL_law_495 : decode cL_law 495 = .ok (.invokevirtual 58, 3) := by decide +kernel
theorem dL_law_498 : decode cL_law 498 = .ok (.aload_n 2, 1) := by decide +kernel
theorem dL_law_499 : decode cL_law 499 = .ok (.invokevirtual 61, 3) := by decide +kernel
theorem dL_law_502 : decode cL_law 502 = .ok (.if_icmp .eq 530, 3) := by decide +kernel
theorem dL_law_505 : decode cL_law 505 = .ok (.iconst 0, 1) := by decide +kernel
theorem dL_law_506 : decode cL_law 506 = .ok (.ireturn, 1) := by decide +kernel
theorem dL_law_507 : decode cL_law 507 = .ok (.aload_n 1, 1) := by decide +kernel
theorem dL_law_508 : decode cL_law 508 = .ok (.invokevirtual 62, 3) := by decide +kernel
theorem dL_law_511 : decode cL_law 511 = .ok (.aload_n 2, 1) := by decide +kernel
theorem dL_law_512 : decode cL_law 512 = .ok (.invokevirtual 65, 3) := by decide +kernel
theorem dL_law_515 : decode cL_law 515 = .ok (.if_icmp .eq 517, 3) := by decide +kernel
theorem dL_law_518 : decode cL_law 518 = .ok (.iconst 0, 1) := by decide +kernel
theorem dL_law_519 : decode cL_law 519 = .ok (.ireturn, 1) := by decide +kernel
theorem dL_law_520 : decode cL_law 520 = .ok (.aload_n 1, 1) := by decide +kernel
theorem dL_law_521 : decode cL_law 521 = .ok (.aload_n 0, 1) := by decide +kernel
theorem dL_law_522 : decode cL_law 522 = .ok (.iload_n 3, 1) := by decide +kernel
theorem dL_law_523 : decode cL_law 523 = .ok (.iconst 1, 1) := by decide +kernel
theorem dL_law_524 : decode cL_law 524 = .ok (.iadd, 1) := by decide +kernel
theorem dL_law_525 : decode cL_law 525 = .ok (.iaload, 1) := by decide +kernel
theorem dL_law_526 : decode cL_law 526 = .ok (.aload_n 0, 1) := by decide +kernel
theorem dL_law_527 : decode cL_law 527 = .ok (.iload_n 3, 1) := by decide +kernel
theorem dL_law_528 : decode cL_law 528 = .ok (.iconst 2, 1) := by decide +kernel
theorem dL_law_529 : decode cL_law 529 = .ok (.iadd, 1) := by decide +kernel
theorem dL_law_530 : decode cL_law 530 = .ok (.iaload, 1) := by decide +kernel
theorem dL_law_531 : decode cL_law 531 = .ok (.invokevirtual 66, 3) := by decide +kernel
theorem dL_law_534 : decode cL_law 534 = .ok (.aload_n 2, 1) := by decide +kernel
theorem dL_law_535 : decode cL_law 535 = .ok (.aload_n 0, 1) := by decide +kernel
theorem dL_law_536 : decode cL_law 536 = .ok (.iload_n 3, 1) := by decide +kernel
theorem dL_law_537 : decode cL_law 537 = .ok (.iconst 1, 1) := by decide +kernel
theorem dL_law_538 : decode cL_law 538 = .ok (.iadd, 1) := by decide +kernel
theorem dL_law_539 : decode cL_law 539 = .ok (.iaload, 1) := by decide +kernel
theorem dL_law_540 : decode cL_law 540 = .ok (.aload_n 0, 1) := by decide +kernel
theorem dL_law_541 : decode cL_law 541 = .ok (.iload_n 3, 1) := by decide +kernel
theorem dL_law_542 : decode cL_law 542 = .ok (.iconst 2, 1) := by decide +kernel
theorem dL_law_543 : decode cL_law 543 = .ok (.iadd, 1) := by decide +kernel
theorem dL_law_544 : decode cL_law 544 = .ok (.iaload, 1) := by decide +kernel
theorem dL_law_545 : decode cL_law 545 = .ok (.invokevirtual 69, 3) := by decide +kernel
theorem dL_law_548 : decode cL_law 548 = .ok (.if_icmp .eq 484, 3) := by decide +kernel
theorem dL_law_551 : decode cL_law 551 = .ok (.iconst 0, 1) := by decide +kernel
theorem dL_law_552 : decode cL_law 552 = .ok (.ireturn, 1) := by decide +kernel
theorem dL_law_553 : decode cL_law 553 = .ok (.aload_n 1, 1) := by decide +kernel
theorem dL_law_554 : decode cL_law 554 = .ok (.aload_n 0, 1) := by decide +kernel
theorem dL_law_555 : decode cL_law 555 = .ok (.iload_n 3, 1) := by decide +kernel
theorem dL_law_556 : decode cL_law 556 = .ok (.iconst 1, 1) := by decide +kernel
theorem dL_law_557 : decode cL_law 557 = .ok (.iadd, 1) := by decide +kernel
theorem dL_law_558 : decode cL_law 558 = .ok (.iaload, 1) := by decide +kernel
theorem dL_law_559 : decode cL_law 559 = .ok (.invokevirtual 70, 3) := by decide +kernel
theorem dL_law_562 : decode cL_law 562 = .ok (.aload_n 2, 1) := by decide +kernel
theorem dL_law_563 : decode cL_law 563 = .ok (.aload_n 0, 1) := by decide +kernel
theorem dL_law_564 : decode cL_law 564 = .ok (.iload_n 3, 1) := by decide +kernel
theorem dL_law_565 : decode cL_law 565 = .ok (.iconst 1, 1) := by decide +kernel
theorem dL_law_566 : decode cL_law 566 = .ok (.iadd, 1) := by decide +kernel
theorem dL_law_567 : decode cL_law 567 = .ok (.iaload, 1) := by decide +kernel
theorem dL_law_568 : decode cL_law 568 = .ok (.invokevirtual 73, 3) := by decide +kernel
theorem dL_law_571 : decode cL_law 571 = .ok (.if_icmp .eq 461, 3) := by decide +kernel
theorem dL_law_574 : decode cL_law 574 = .ok (.iconst 0, 1) := by decide +kernel
theorem dL_law_575 : decode cL_law 575 = .ok (.ireturn, 1) := by decide +kernel
theorem dL_law_576 : decode cL_law 576 = .ok (.aload_n 1, 1) := by decide +kernel
theorem dL_law_577 : decode cL_law 577 = .ok (.invokevirtual 74, 3) := by decide +kernel
theorem dL_law_580 : decode cL_law 580 = .ok (.aload_n 2, 1) := by decide +kernel
theorem dL_law_581 : decode cL_law 581 = .ok (.invokevirtual 77, 3) := by decide +kernel
theorem dL_law_584 : decode cL_law 584 = .ok (.if_icmp .eq 448, 3) := by decide +kernel
theorem dL_law_587 : decode cL_law 587 = .ok (.iconst 0, 1) := by decide +kernel
theorem dL_law_588 : decode cL_law 588 = .ok (.ireturn, 1) := by decide +kernel
theorem dL_law_589 : decode cL_law 589 = .ok (.aload_n 1, 1) := by decide +kernel
theorem dL_law_590 : decode cL_law 590 = .ok (.aload_n 0, 1) := by decide +kernel
theorem dL_law_591 : decode cL_law 591 = .ok (.iload_n 3, 1) := by decide +kernel
theorem dL_law_592 : decode cL_law 592 = .ok (.iconst 1, 1) := by decide +kernel
theorem dL_law_593 : decode cL_law 593 = .ok (.iadd, 1) := by decide +kernel
theorem dL_law_594 : decode cL_law 594 = .ok (.iaload, 1) := by decide +kernel
theorem dL_law_595 : decode cL_law 595 = .ok (.aload_n 0, 1) := by decide +kernel
theorem dL_law_596 : decode cL_law 596 = .ok (.iload_n 3, 1) := by decide +kernel
theorem dL_law_597 : decode cL_law 597 = .ok (.iconst 2, 1) := by decide +kernel
theorem dL_law_598 : decode cL_law 598 = .ok (.iadd, 1) := by decide +kernel
theorem dL_law_599 : decode cL_law 599 = .ok (.iaload, 1) := by decide +kernel
theorem dL_law_600 : decode cL_law 600 = .ok (.invokevirtual 78, 3) := by decide +kernel
theorem dL_law_603 : decode cL_law 603 = .ok (.aload_n 2, 1) := by decide +kernel
theorem dL_law_604 : decode cL_law 604 = .ok (.aload_n 0, 1) := by decide +kernel
theorem dL_law_605 : decode cL_law 605 = .ok (.iload_n 3, 1) := by decide +kernel
theorem dL_law_606 : decode cL_law 606 = .ok (.iconst 1, 1) := by decide +kernel
theorem dL_law_607 : decode cL_law 607 = .ok (.iadd, 1) := by decide +kernel
theorem dL_law_608 : decode cL_law 608 = .ok (.iaload, 1) := by decide +kernel
theorem dL_law_609 : decode cL_law 609 = .ok (.aload_n 0, 1) := by decide +kernel
theorem dL_law_610 : decode cL_law 610 = .ok (.iload_n 3, 1) := by decide +kernel
theorem dL_law_611 : decode cL_law 611 = .ok (.iconst 2, 1) := by decide +kernel
theorem dL_law_612 : decode cL_law 612 = .ok (.iadd, 1) := by decide +kernel
theorem dL_law_613 : decode cL_law 613 = .ok (.iaload, 1) := by decide +kernel
theorem dL_law_614 : decode cL_law 614 = .ok (.invokevirtual 81, 3) := by decide +kernel
theorem dL_law_617 : decode cL_law 617 = .ok (.if_icmp .eq 415, 3) := by decide +kernel
theorem dL_law_620 : decode cL_law 620 = .ok (.iconst 0, 1) := by decide +kernel
theorem dL_law_621 : decode cL_law 621 = .ok (.ireturn, 1) := by decide +kernel
theorem dL_law_622 : decode cL_law 622 = .ok (.aload_n 1, 1) := by decide +kernel
theorem dL_law_623 : decode cL_law 623 = .ok (.aload_n 0, 1) := by decide +kernel
theorem dL_law_624 : decode cL_law 624 = .ok (.iload_n 3, 1) := by decide +kernel
theorem dL_law_625 : decode cL_law 625 = .ok (.iconst 1, 1) := by decide +kernel
theorem dL_law_626 : decode cL_law 626 = .ok (.iadd, 1) := by decide +kernel
theorem dL_law_627 : decode cL_law 627 = .ok (.iaload, 1) := by decide +kernel
theorem dL_law_628 : decode cL_law 628 = .ok (.aload_n 0, 1) := by decide +kernel
theorem dL_law_629 : decode cL_law 629 = .ok (.iload_n 3, 1) := by decide +kernel
theorem dL_law_630 : decode cL_law 630 = .ok (.iconst 2, 1) := by decide +kernel
theorem dL_law_631 : decode cL_law 631 = .ok (.iadd, 1) := by decide +kernel
theorem dL_law_632 : decode cL_law 632 = .ok (.iaload, 1) := by decide +kernel
theorem dL_law_633 : decode cL_law 633 = .ok (.invokevirtual 82, 3) := by decide +kernel
theorem dL_law_636 : decode cL_law 636 = .ok (.aload_n 2, 1) := by decide +kernel
theorem dL_law_637 : decode cL_law 637 = .ok (.aload_n 0, 1) := by decide +kernel
theorem dL_law_638 : decode cL_law 638 = .ok (.iload_n 3, 1) := by decide +kernel
theorem dL_law_639 : decode cL_law 639 = .ok (.iconst 1, 1) := by decide +kernel
theorem dL_law_640 : decode cL_law 640 = .ok (.iadd, 1) := by decide +kernel
theorem dL_law_641 : decode cL_law 641 = .ok (.iaload, 1) := by decide +kernel
theorem dL_law_642 : decode cL_law 642 = .ok (.aload_n 0, 1) := by decide +kernel
theorem dL_law_643 : decode cL_law 643 = .ok (.iload_n 3, 1) := by decide +kernel
theorem dL_law_644 : decode cL_law 644 = .ok (.iconst 2, 1) := by decide +kernel
theorem dL_law_645 : decode cL_law 645 = .ok (.iadd, 1) := by decide +kernel
theorem dL_law_646 : decode cL_law 646 = .ok (.iaload, 1) := by decide +kernel
theorem dL_law_647 : decode cL_law 647 = .ok (.invokevirtual 85, 3) := by decide +kernel
theorem dL_law_650 : decode cL_law 650 = .ok (.if_icmp .eq 382, 3) := by decide +kernel
theorem dL_law_653 : decode cL_law 653 = .ok (.iconst 0, 1) := by decide +kernel
theorem dL_law_654 : decode cL_law 654 = .ok (.ireturn, 1) := by decide +kernel
theorem dL_law_655 : decode cL_law 655 = .ok (.aload_n 1, 1) := by decide +kernel
theorem dL_law_656 : decode cL_law 656 = .ok (.aload_n 0, 1) := by decide +kernel
theorem dL_law_657 : decode cL_law 657 = .ok (.iload_n 3, 1) := by decide +kernel
theorem dL_law_658 : decode cL_law 658 = .ok (.iconst 1, 1) := by decide +kernel
theorem dL_law_659 : decode cL_law 659 = .ok (.iadd, 1) := by decide +kernel
theorem dL_law_660 : decode cL_law 660 = .ok (.iaload, 1) := by decide +kernel
theorem dL_law_661 : decode cL_law 661 = .ok (.invokevirtual 86, 3) := by decide +kernel
theorem dL_law_664 : decode cL_law 664 = .ok (.aload_n 2, 1) := by decide +kernel
theorem dL_law_665 : decode cL_law 665 = .ok (.aload_n 0, 1) := by decide +kernel
theorem dL_law_666 : decode cL_law 666 = .ok (.iload_n 3, 1) := by decide +kernel
theorem dL_law_667 : decode cL_law 667 = .ok (.iconst 1, 1) := by decide +kernel
theorem dL_law_668 : decode cL_law 668 = .ok (.iadd, 1) := by decide +kernel
theorem dL_law_669 : decode cL_law 669 = .ok (.iaload, 1) := by decide +kernel
theorem dL_law_670 : decode cL_law 670 = .ok (.invokevirtual 89, 3) := by decide +kernel
theorem dL_law_673 : decode cL_law 673 = .ok (.if_icmp .eq 359, 3) := by decide +kernel
theorem dL_law_676 : decode cL_law 676 = .ok (.iconst 0, 1) := by decide +kernel
theorem dL_law_677 : decode cL_law 677 = .ok (.ireturn, 1) := by decide +kernel
theorem dL_law_678 : decode cL_law 678 = .ok (.aload_n 1, 1) := by decide +kernel
theorem dL_law_679 : decode cL_law 679 = .ok (.aload_n 0, 1) := by decide +kernel
theorem dL_law_680 : decode cL_law 680 = .ok (.iload_n 3, 1) := by decide +kernel
theorem dL_law_681 : decode cL_law 681 = .ok (.iconst 1, 1) := by decide +kernel
theorem dL_law_682 : decode cL_law 682 = .ok (.iadd, 1) := by decide +kernel
theorem dL_law_683 : decode cL_law 683 = .ok (.iaload, 1) := by decide +kernel
theorem dL_law_684 : decode cL_law 684 = .ok (.aload_n 0, 1) := by decide +kernel
theorem dL_law_685 : decode cL_law 685 = .ok (.iload_n 3, 1) := by decide +kernel
theorem dL_law_686 : decode cL_law 686 = .ok (.iconst 2, 1) := by decide +kernel
theorem dL_law_687 : decode cL_law 687 = .ok (.iadd, 1) := by decide +kernel
theorem dL_law_688 : decode cL_law 688 = .ok (.iaload, 1) := by decide +kernel
theorem dL_law_689 : decode cL_law 689 = .ok (.invokevirtual 90, 3) := by decide +kernel
theorem dL_law_692 : decode cL_law 692 = .ok (.aload_n 2, 1) := by decide +kernel
theorem dL_law_693 : decode cL_law 693 = .ok (.aload_n 0, 1) := by decide +kernel
theorem dL_law_694 : decode cL_law 694 = .ok (.iload_n 3, 1) := by decide +kernel
theorem dL_law_695 : decode cL_law 695 = .ok (.iconst 1, 1) := by decide +kernel
theorem dL_law_696 : decode cL_law 696 = .ok (.iadd, 1) := by decide +kernel
theorem dL_law_697 : decode cL_law 697 = .ok (.iaload, 1) := by decide +kernel
theorem dL_law_698 : decode cL_law 698 = .ok (.aload_n 0, 1) := by decide +kernel
theorem dL_law_699 : decode cL_law 699 = .ok (.iload_n 3, 1) := by decide +kernel
theorem dL_law_700 : decode cL_law 700 = .ok (.iconst 2, 1) := by decide +kernel
theorem dL_law_701 : decode cL_law 701 = .ok (.iadd, 1) := by decide +kernel
theorem dL_law_702 : decode cL_law 702 = .ok (.iaload, 1) := by decide +kernel
theorem dL_law_703 : decode cL_law 703 = .ok (.invokevirtual 93, 3) := by decide +kernel
theorem dL_law_706 : decode cL_law 706 = .ok (.if_icmp .eq 326, 3) := by decide +kernel
theorem dL_law_709 : decode cL_law 709 = .ok (.iconst 0, 1) := by decide +kernel
theorem dL_law_710 : decode cL_law 710 = .ok (.ireturn, 1) := by decide +kernel
theorem dL_law_711 : decode cL_law 711 = .ok (.aload_n 1, 1) := by decide +kernel
theorem dL_law_712 : decode cL_law 712 = .ok (.aload_n 0, 1) := by decide +kernel
theorem dL_law_713 : decode cL_law 713 = .ok (.iload_n 3, 1) := by decide +kernel
theorem dL_law_714 : decode cL_law 714 = .ok (.iconst 1, 1) := by decide +kernel
theorem dL_law_715 : decode cL_law 715 = .ok (.iadd, 1) := by decide +kernel
theorem dL_law_716 : decode cL_law 716 = .ok (.iaload, 1) := by decide +kernel
theorem dL_law_717 : decode cL_law 717 = .ok (.invokevirtual 94, 3) := by decide +kernel
theorem dL_law_720 : decode cL_law 720 = .ok (.aload_n 2, 1) := by decide +kernel
theorem dL_law_721 : decode cL_law 721 = .ok (.aload_n 0, 1) := by decide +kernel
theorem dL_law_722 : decode cL_law 722 = .ok (.iload_n 3, 1) := by decide +kernel
theorem dL_law_723 : decode cL_law 723 = .ok (.iconst 1, 1) := by decide +kernel
theorem dL_law_724 : decode cL_law 724 = .ok (.iadd, 1) := by decide +kernel
theorem dL_law_725 : decode cL_law 725 = .ok (.iaload, 1) := by decide +kernel
theorem dL_law_726 : decode cL_law 726 = .ok (.invokevirtual 97, 3) := by decide +kernel
theorem dL_law_729 : decode cL_law 729 = .ok (.if_icmp .eq 303, 3) := by decide +kernel
theorem dL_law_732 : decode cL_law 732 = .ok (.iconst 0, 1) := by decide +kernel
theorem dL_law_733 : decode cL_law 733 = .ok (.ireturn, 1) := by decide +kernel
theorem dL_law_734 : decode cL_law 734 = .ok (.aload_n 1, 1) := by decide +kernel
theorem dL_law_735 : decode cL_law 735 = .ok (.aload_n 0, 1) := by decide +kernel
theorem dL_law_736 : decode cL_law 736 = .ok (.iload_n 3, 1) := by decide +kernel
theorem dL_law_737 : decode cL_law 737 = .ok (.iconst 1, 1) := by decide +kernel
theorem dL_law_738 : decode cL_law 738 = .ok (.iadd, 1) := by decide +kernel
theorem dL_law_739 : decode cL_law 739 = .ok (.iaload, 1) := by decide +kernel
theorem dL_law_740 : decode cL_law 740 = .ok (.aload_n 0, 1) := by decide +kernel
theorem dL_law_741 : decode cL_law 741 = .ok (.iload_n 3, 1) := by decide +kernel
theorem dL_law_742 : decode cL_law 742 = .ok (.iconst 2, 1) := by decide +kernel
theorem dL_law_743 : decode cL_law 743 = .ok (.iadd, 1) := by decide +kernel
theorem dL_law_744 : decode cL_law 744 = .ok (.iaload, 1) := by decide +kernel
theorem dL_law_745 : decode cL_law 745 = .ok (.aload_n 0, 1) := by decide +kernel
theorem dL_law_746 : decode cL_law 746 = .ok (.iload_n 3, 1) := by decide +kernel
theorem dL_law_747 : decode cL_law 747 = .ok (.iconst 3, 1) := by decide +kernel
theorem dL_law_748 : decode cL_law 748 = .ok (.iadd, 1) := by decide +kernel
theorem dL_law_749 : decode cL_law 749 = .ok (.iaload, 1) := by decide +kernel
theorem dL_law_750 : decode cL_law 750 = .ok (.invokevirtual 98, 3) := by decide +kernel
theorem dL_law_753 : decode cL_law 753 = .ok (.aload_n 2, 1) := by decide +kernel
theorem dL_law_754 : decode cL_law 754 = .ok (.aload_n 0, 1) := by decide +kernel
theorem dL_law_755 : decode cL_law 755 = .ok (.iload_n 3, 1) := by decide +kernel
theorem dL_law_756 : decode cL_law 756 = .ok (.iconst 1, 1) := by decide +kernel
theorem dL_law_757 : decode cL_law 757 = .ok (.iadd, 1) := by decide +kernel
theorem dL_law_758 : decode cL_law 758 = .ok (.iaload, 1) := by decide +kernel
theorem dL_law_759 : decode cL_law 759 = .ok (.aload_n 0, 1) := by decide +kernel
theorem dL_law_760 : decode cL_law 760 = .ok (.iload_n 3, 1) := by decide +kernel
theorem dL_law_761 : decode cL_law 761 = .ok (.iconst 2, 1) := by decide +kernel
theorem dL_law_762 : decode cL_law 762 = .ok (.iadd, 1) := by decide +kernel
theorem dL_law_763 : decode cL_law 763 = .ok (.iaload, 1) := by decide +kernel
theorem dL_law_764 : decode cL_law 764 = .ok (.aload_n 0, 1) := by decide +kernel
theorem dL_law_765 : decode cL_law 765 = .ok (.iload_n 3, 1) := by decide +kernel
theorem dL_law_766 : decode cL_law 766 = .ok (.iconst 3, 1) := by decide +kernel
theorem dL_law_767 : decode cL_law 767 = .ok (.iadd, 1) := by decide +kernel
theorem dL_law_768 : decode cL_law 768 = .ok (.iaload, 1) := by decide +kernel
theorem dL_law_769 : decode cL_law 769 = .ok (.invokevirtual 101, 3) := by decide +kernel
theorem dL_law_772 : decode cL_law 772 = .ok (.if_icmp .eq 260, 3) := by decide +kernel
theorem dL_law_775 : decode cL_law 775 = .ok (.iconst 0, 1) := by decide +kernel
theorem dL_law_776 : decode cL_law 776 = .ok (.ireturn, 1) := by decide +kernel
theorem dL_law_777 : decode cL_law 777 = .ok (.aload_n 1, 1) := by decide +kernel
theorem dL_law_778 : decode cL_law 778 = .ok (.aload_n 0, 1) := by decide +kernel
theorem dL_law_779 : decode cL_law 779 = .ok (.iload_n 3, 1) := by decide +kernel
theorem dL_law_780 : decode cL_law 780 = .ok (.iconst 1, 1) := by decide +kernel
theorem dL_law_781 : decode cL_law 781 = .ok (.iadd, 1) := by decide +kernel
theorem dL_law_782 : decode cL_law 782 = .ok (.iaload, 1) := by decide +kernel
theorem dL_law_783 : decode cL_law 783 = .ok (.aload_n 0, 1) := by decide +kernel
theorem dL_law_784 : decode cL_law 784 = .ok (.iload_n 3, 1) := by decide +kernel
theorem dL_law_785 : decode cL_law 785 = .ok (.iconst 2, 1) := by decide +kernel
theorem dL_law_786 : decode cL_law 786 = .ok (.iadd, 1) := by decide +kernel
theorem dL_law_787 : decode cL_law 787 = .ok (.iaload, 1) := by decide +kernel
theorem dL_law_788 : decode cL_law 788 = .ok (.invokevirtual 102, 3) := by decide +kernel
theorem dL_law_791 : decode cL_law 791 = .ok (.aload_n 2, 1) := by decide +kernel
theorem dL_law_792 : decode cL_law 792 = .ok (.aload_n 0, 1) := by decide +kernel
theorem dL_law_793 : decode cL_law 793 = .ok (.iload_n 3, 1) := by decide +kernel
theorem dL_law_794 : decode cL_law 794 = .ok (.iconst 1, 1) := by decide +kernel
theorem dL_law_795 : decode cL_law 795 = .ok (.iadd, 1) := by decide +kernel
theorem dL_law_796 : decode cL_law 796 = .ok (.iaload, 1) := by decide +kernel
theorem dL_law_797 : decode cL_law 797 = .ok (.aload_n 0, 1) := by decide +kernel
theorem dL_law_798 : decode cL_law 798 = .ok (.iload_n 3, 1) := by decide +kernel
theorem dL_law_799 : decode cL_law 799 = .ok (.iconst 2, 1) := by decide +kernel
theorem dL_law_800 : decode cL_law 800 = .ok (.iadd, 1) := by decide +kernel
theorem dL_law_801 : decode cL_law 801 = .ok (.iaload, 1) := by decide +kernel
theorem dL_law_802 : decode cL_law 802 = .ok (.invokevirtual 105, 3) := by decide +kernel
theorem dL_law_805 : decode cL_law 805 = .ok (.if_icmp .eq 227, 3) := by decide +kernel
theorem dL_law_808 : decode cL_law 808 = .ok (.iconst 0, 1) := by decide +kernel
theorem dL_law_809 : decode cL_law 809 = .ok (.ireturn, 1) := by decide +kernel
theorem dL_law_810 : decode cL_law 810 = .ok (.aload_n 1, 1) := by decide +kernel
theorem dL_law_811 : decode cL_law 811 = .ok (.aload_n 0, 1) := by decide +kernel
theorem dL_law_812 : decode cL_law 812 = .ok (.iload_n 3, 1) := by decide +kernel
theorem dL_law_813 : decode cL_law 813 = .ok (.iconst 1, 1) := by decide +kernel
theorem dL_law_814 : decode cL_law 814 = .ok (.iadd, 1) := by decide +kernel
theorem dL_law_815 : decode cL_law 815 = .ok (.iaload, 1) := by decide +kernel
theorem dL_law_816 : decode cL_law 816 = .ok (.invokevirtual 106, 3) := by decide +kernel
theorem dL_law_819 : decode cL_law 819 = .ok (.aload_n 2, 1) := by decide +kernel
theorem dL_law_820 : decode cL_law 820 = .ok (.aload_n 0, 1) := by decide +kernel
theorem dL_law_821 : decode cL_law 821 = .ok (.iload_n 3, 1) := by decide +kernel
theorem dL_law_822 : decode cL_law 822 = .ok (.iconst 1, 1) := by decide +kernel
theorem dL_law_823 : decode cL_law 823 = .ok (.iadd, 1) := by decide +kernel
theorem dL_law_824 : decode cL_law 824 = .ok (.iaload, 1) := by decide +kernel
theorem dL_law_825 : decode cL_law 825 = .ok (.invokevirtual 109, 3) := by decide +kernel
theorem dL_law_828 : decode cL_law 828 = .ok (.if_icmp .eq 204, 3) := by decide +kernel
theorem dL_law_831 : decode cL_law 831 = .ok (.iconst 0, 1) := by decide +kernel
theorem dL_law_832 : decode cL_law 832 = .ok (.ireturn, 1) := by decide +kernel
theorem dL_law_833 : decode cL_law 833 = .ok (.aload_n 1, 1) := by decide +kernel
theorem dL_law_834 : decode cL_law 834 = .ok (.aload_n 0, 1) := by decide +kernel
theorem dL_law_835 : decode cL_law 835 = .ok (.iload_n 3, 1) := by decide +kernel
theorem dL_law_836 : decode cL_law 836 = .ok (.iconst 1, 1) := by decide +kernel
theorem dL_law_837 : decode cL_law 837 = .ok (.iadd, 1) := by decide +kernel
theorem dL_law_838 : decode cL_law 838 = .ok (.iaload, 1) := by decide +kernel
theorem dL_law_839 : decode cL_law 839 = .ok (.aload_n 0, 1) := by decide +kernel
theorem dL_law_840 : decode cL_law 840 = .ok (.iload_n 3, 1) := by decide +kernel
theorem dL_law_841 : decode cL_law 841 = .ok (.iconst 2, 1) := by decide +kernel
theorem dL_law_842 : decode cL_law 842 = .ok (.iadd, 1) := by decide +kernel
theorem dL_law_843 : decode cL_law 843 = .ok (.iaload, 1) := by decide +kernel
theorem dL_law_844 : decode cL_law 844 = .ok (.invokevirtual 110, 3) := by decide +kernel
theorem dL_law_847 : decode cL_law 847 = .ok (.aload_n 2, 1) := by decide +kernel
theorem dL_law_848 : decode cL_law 848 = .ok (.aload_n 0, 1) := by decide +kernel
theorem dL_law_849 : decode cL_law 849 = .ok (.iload_n 3, 1) := by decide +kernel
theorem dL_law_850 : decode cL_law 850 = .ok (.iconst 1, 1) := by decide +kernel
theorem dL_law_851 : decode cL_law 851 = .ok (.iadd, 1) := by decide +kernel
theorem dL_law_852 : decode cL_law 852 = .ok (.iaload, 1) := by decide +kernel
theorem dL_law_853 : decode cL_law 853 = .ok (.aload_n 0, 1) := by decide +kernel
theorem dL_law_854 : decode cL_law 854 = .ok (.iload_n 3, 1) := by decide +kernel
theorem dL_law_855 : decode cL_law 855 = .ok (.iconst 2, 1) := by decide +kernel
theorem dL_law_856 : decode cL_law 856 = .ok (.iadd, 1) := by decide +kernel
theorem dL_law_857 : decode cL_law 857 = .ok (.iaload, 1) := by decide +kernel
theorem dL_law_858 : decode cL_law 858 = .ok (.invokevirtual 113, 3) := by decide +kernel
theorem dL_law_861 : decode cL_law 861 = .ok (.if_icmp .eq 171, 3) := by decide +kernel
theorem dL_law_864 : decode cL_law 864 = .ok (.iconst 0, 1) := by decide +kernel
theorem dL_law_865 : decode cL_law 865 = .ok (.ireturn, 1) := by decide +kernel
theorem dL_law_866 : decode cL_law 866 = .ok (.aload_n 1, 1) := by decide +kernel
theorem dL_law_867 : decode cL_law 867 = .ok (.aload_n 0, 1) := by decide +kernel
theorem dL_law_868 : decode cL_law 868 = .ok (.iload_n 3, 1) := by decide +kernel
theorem dL_law_869 : decode cL_law 869 = .ok (.iconst 1, 1) := by decide +kernel
theorem dL_law_870 : decode cL_law 870 = .ok (.iadd, 1) := by decide +kernel
theorem dL_law_871 : decode cL_law 871 = .ok (.iaload, 1) := by decide +kernel
theorem dL_law_872 : decode cL_law 872 = .ok (.aload_n 0, 1) := by decide +kernel
theorem dL_law_873 : decode cL_law 873 = .ok (.iload_n 3, 1) := by decide +kernel
theorem dL_law_874 : decode cL_law 874 = .ok (.iconst 2, 1) := by decide +kernel
theorem dL_law_875 : decode cL_law 875 = .ok (.iadd, 1) := by decide +kernel
theorem dL_law_876 : decode cL_law 876 = .ok (.iaload, 1) := by decide +kernel
theorem dL_law_877 : decode cL_law 877 = .ok (.aload_n 0, 1) := by decide +kernel
theorem dL_law_878 : decode cL_law 878 = .ok (.iload_n 3, 1) := by decide +kernel
theorem dL_law_879 : decode cL_law 879 = .ok (.iconst 3, 1) := by decide +kernel
theorem dL_law_880 : decode cL_law 880 = .ok (.iadd, 1) := by decide +kernel
theorem dL_law_881 : decode cL_law 881 = .ok (.iaload, 1) := by decide +kernel
theorem dL_law_882 : decode cL_law 882 = .ok (.invokevirtual 114, 3) := by decide +kernel
theorem dL_law_885 : decode cL_law 885 = .ok (.aload_n 2, 1) := by decide +kernel
theorem dL_law_886 : decode cL_law 886 = .ok (.aload_n 0, 1) := by decide +kernel
theorem dL_law_887 : decode cL_law 887 = .ok (.iload_n 3, 1) := by decide +kernel
theorem dL_law_888 : decode cL_law 888 = .ok (.iconst 1, 1) := by decide +kernel
theorem dL_law_889 : decode cL_law 889 = .ok (.iadd, 1) := by decide +kernel
theorem dL_law_890 : decode cL_law 890 = .ok (.iaload, 1) := by decide +kernel
theorem dL_law_891 : decode cL_law 891 = .ok (.aload_n 0, 1) := by decide +kernel
theorem dL_law_892 : decode cL_law 892 = .ok (.iload_n 3, 1) := by decide +kernel
theorem dL_law_893 : decode cL_law 893 = .ok (.iconst 2, 1) := by decide +kernel
theorem dL_law_894 : decode cL_law 894 = .ok (.iadd, 1) := by decide +kernel
theorem dL_law_895 : decode cL_law 895 = .ok (.iaload, 1) := by decide +kernel
theorem dL_law_896 : decode cL_law 896 = .ok (.aload_n 0, 1) := by decide +kernel
theorem dL_law_897 : decode cL_law 897 = .ok (.iload_n 3, 1) := by decide +kernel
theorem dL_law_898 : decode cL_law 898 = .ok (.iconst 3, 1) := by decide +kernel
theorem dL_law_899 : decode cL_law 899 = .ok (.iadd, 1) := by decide +kernel
theorem dL_law_900 : decode cL_law 900 = .ok (.iaload, 1) := by decide +kernel
theorem dL_law_901 : decode cL_law 901 = .ok (.invokevirtual 117, 3) := by decide +kernel
theorem dL_law_904 : decode cL_law 904 = .ok (.if_icmp .eq 128, 3) := by decide +kernel
theorem dL_law_907 : decode cL_law 907 = .ok (.iconst 0, 1) := by decide +kernel
theorem dL_law_908 : decode cL_law 908 = .ok (.ireturn, 1) := by decide +kernel
theorem dL_law_909 : decode cL_law 909 = .ok (.aload_n 1, 1) := by decide +kernel
theorem dL_law_910 : decode cL_law 910 = .ok (.aload_n 0, 1) := by decide +kernel
theorem dL_law_911 : decode cL_law 911 = .ok (.iload_n 3, 1) := by decide +kernel
theorem dL_law_912 : decode cL_law 912 = .ok (.iconst 1, 1) := by decide +kernel
theorem dL_law_913 : decode cL_law 913 = .ok (.iadd, 1) := by decide +kernel
theorem dL_law_914 : decode cL_law 914 = .ok (.iaload, 1) := by decide +kernel
theorem dL_law_915 : decode cL_law 915 = .ok (.aload_n 0, 1) := by decide +kernel
theorem dL_law_916 : decode cL_law 916 = .ok (.iload_n 3, 1) := by decide +kernel
theorem dL_law_917 : decode cL_law 917 = .ok (.iconst 2, 1) := by decide +kernel
theorem dL_law_918 : decode cL_law 918 = .ok (.iadd, 1) := by decide +kernel
theorem dL_law_919 : decode cL_law 919 = .ok (.iaload, 1) := by decide +kernel
theorem dL_law_920 : decode cL_law 920 = .ok (.aload_n 0, 1) := by decide +kernel
theorem dL_law_921 : decode cL_law 921 = .ok (.iload_n 3, 1) := by decide +kernel
theorem dL_law_922 : decode cL_law 922 = .ok (.iconst 3, 1) := by decide +kernel
theorem dL_law_923 : decode cL_law 923 = .ok (.iadd, 1) := by decide +kernel
theorem dL_law_924 : decode cL_law 924 = .ok (.iaload, 1) := by decide +kernel
theorem dL_law_925 : decode cL_law 925 = .ok (.invokevirtual 118, 3) := by decide +kernel
theorem dL_law_928 : decode cL_law 928 = .ok (.aload_n 2, 1) := by decide +kernel
theorem dL_law_929 : decode cL_law 929 = .ok (.aload_n 0, 1) := by decide +kernel
theorem dL_law_930 : decode cL_law 930 = .ok (.iload_n 3, 1) := by decide +kernel
theorem dL_law_931 : decode cL_law 931 = .ok (.iconst 1, 1) := by decide +kernel
theorem dL_law_932 : decode cL_law 932 = .ok (.iadd, 1) := by decide +kernel
theorem dL_law_933 : decode cL_law 933 = .ok (.iaload, 1) := by decide +kernel
theorem dL_law_934 : decode cL_law 934 = .ok (.aload_n 0, 1) := by decide +kernel
theorem dL_law_935 : decode cL_law 935 = .ok (.iload_n 3, 1) := by decide +kernel
theorem dL_law_936 : decode cL_law 936 = .ok (.iconst 2, 1) := by decide +kernel
theorem dL_law_937 : decode cL_law 937 = .ok (.iadd, 1) := by decide +kernel
theorem dL_law_938 : decode cL_law 938 = .ok (.iaload, 1) := by decide +kernel
theorem dL_law_939 : decode cL_law 939 = .ok (.aload_n 0, 1) := by decide +kernel
theorem dL_law_940 : decode cL_law 940 = .ok (.iload_n 3, 1) := by decide +kernel
theorem dL_law_941 : decode cL_law 941 = .ok (.iconst 3, 1) := by decide +kernel
theorem dL_law_942 : decode cL_law 942 = .ok (.iadd, 1) := by decide +kernel
theorem dL_law_943 : decode cL_law 943 = .ok (.iaload, 1) := by decide +kernel
theorem dL_law_944 : decode cL_law 944 = .ok (.invokevirtual 121, 3) := by decide +kernel
theorem dL_law_947 : decode cL_law 947 = .ok (.if_icmp .eq 85, 3) := by decide +kernel
theorem dL_law_950 : decode cL_law 950 = .ok (.iconst 0, 1) := by decide +kernel
theorem dL_law_951 : decode cL_law 951 = .ok (.ireturn, 1) := by decide +kernel
theorem dL_law_952 : decode cL_law 952 = .ok (.aload_n 1, 1) := by decide +kernel
theorem dL_law_953 : decode cL_law 953 = .ok (.aload_n 0, 1) := by decide +kernel
theorem dL_law_954 : decode cL_law 954 = .ok (.iload_n 3, 1) := by decide +kernel
theorem dL_law_955 : decode cL_law 955 = .ok (.iconst 1, 1) := by decide +kernel
theorem dL_law_956 : decode cL_law 956 = .ok (.iadd, 1) := by decide +kernel
theorem dL_law_957 : decode cL_law 957 = .ok (.iaload, 1) := by decide +kernel
theorem dL_law_958 : decode cL_law 958 = .ok (.aload_n 0, 1) := by decide +kernel
theorem dL_law_959 : decode cL_law 959 = .ok (.iload_n 3, 1) := by decide +kernel
theorem dL_law_960 : decode cL_law 960 = .ok (.iconst 2, 1) := by decide +kernel
theorem dL_law_961 : decode cL_law 961 = .ok (.iadd, 1) := by decide +kernel
theorem dL_law_962 : decode cL_law 962 = .ok (.iaload, 1) := by decide +kernel
theorem dL_law_963 : decode cL_law 963 = .ok (.aload_n 0, 1) := by decide +kernel
theorem dL_law_964 : decode cL_law 964 = .ok (.iload_n 3, 1) := by decide +kernel
theorem dL_law_965 : decode cL_law 965 = .ok (.iconst 3, 1) := by decide +kernel
theorem dL_law_966 : decode cL_law 966 = .ok (.iadd, 1) := by decide +kernel
theorem dL_law_967 : decode cL_law 967 = .ok (.iaload, 1) := by decide +kernel
theorem dL_law_968 : decode cL_law 968 = .ok (.invokevirtual 122, 3) := by decide +kernel
theorem dL_law_971 : decode cL_law 971 = .ok (.aload_n 2, 1) := by decide +kernel
theorem dL_law_972 : decode cL_law 972 = .ok (.aload_n 0, 1) := by decide +kernel
theorem dL_law_973 : decode cL_law 973 = .ok (.iload_n 3, 1) := by decide +kernel
theorem dL_law_974 : decode cL_law 974 = .ok (.iconst 1, 1) := by decide +kernel
theorem dL_law_975 : decode cL_law 975 = .ok (.iadd, 1) := by decide +kernel
theorem dL_law_976 : decode cL_law 976 = .ok (.iaload, 1) := by decide +kernel
theorem dL_law_977 : decode cL_law 977 = .ok (.aload_n 0, 1) := by decide +kernel
theorem dL_law_978 : decode cL_law 978 = .ok (.iload_n 3, 1) := by decide +kernel
theorem dL_law_979 : decode cL_law 979 = .ok (.iconst 2, 1) := by decide +kernel
theorem dL_law_980 : decode cL_law 980 = .ok (.iadd, 1) := by decide +kernel
theorem dL_law_981 : decode cL_law 981 = .ok (.iaload, 1) := by decide +kernel
theorem dL_law_982 : decode cL_law 982 = .ok (.aload_n 0, 1) := by decide +kernel
theorem dL_law_983 : decode cL_law 983 = .ok (.iload_n 3, 1) := by decide +kernel
theorem dL_law_984 : decode cL_law 984 = .ok (.iconst 3, 1) := by decide +kernel
theorem dL_law_985 : decode cL_law 985 = .ok (.iadd, 1) := by decide +kernel
theorem dL_law_986 : decode cL_law 986 = .ok (.iaload, 1) := by decide +kernel
theorem dL_law_987 : decode cL_law 987 = .ok (.invokevirtual 125, 3) := by decide +kernel
theorem dL_law_990 : decode cL_law 990 = .ok (.if_icmp .eq 42, 3) := by decide +kernel
theorem dL_law_993 : decode cL_law 993 = .ok (.iconst 0, 1) := by decide +kernel
theorem dL_law_994 : decode cL_law 994 = .ok (.ireturn, 1) := by decide +kernel
theorem dL_law_995 : decode cL_law 995 = .ok (.aload_n 1, 1) := by decide +kernel
theorem dL_law_996 : decode cL_law 996 = .ok (.aload_n 0, 1) := by decide +kernel
theorem dL_law_997 : decode cL_law 997 = .ok (.iload_n 3, 1) := by decide +kernel
theorem dL_law_998 : decode cL_law 998 = .ok (.iconst 1, 1) := by decide +kernel
theorem dL_law_999 : decode cL_law 999 = .ok (.iadd, 1) := by decide +kernel
theorem dL_law_1000 : decode cL_law 1000 = .ok (.iaload, 1) := by decide +kernel
theorem dL_law_1001 : decode cL_law 1001 = .ok (.invokevirtual 126, 3) := by decide +kernel
theorem dL_law_1004 : decode cL_law 1004 = .ok (.aload_n 2, 1) := by decide +kernel
theorem dL_law_1005 : decode cL_law 1005 = .ok (.aload_n 0, 1) := by decide +kernel
theorem dL_law_1006 : decode cL_law 1006 = .ok (.iload_n 3, 1) := by decide +kernel
theorem dL_law_1007 : decode cL_law 1007 = .ok (.iconst 1, 1) := by decide +kernel
theorem dL_law_1008 : decode cL_law 1008 = .ok (.iadd, 1) := by decide +kernel
theorem dL_law_1009 : decode cL_law 1009 = .ok (.iaload, 1) := by decide +kernel
theorem dL_law_1010 : decode cL_law 1010 = .ok (.invokevirtual 129, 3) := by decide +kernel
theorem dL_law_1013 : decode cL_law 1013 = .ok (.if_icmp .eq 19, 3) := by decide +kernel
theorem dL_law_1016 : decode cL_law 1016 = .ok (.iconst 0, 1) := by decide +kernel
theorem dL_law_1017 : decode cL_law 1017 = .ok (.ireturn, 1) := by decide +kernel
theorem dL_law_1018 : decode cL_law 1018 = .ok (.aload_n 1, 1) := by decide +kernel
theorem dL_law_1019 : decode cL_law 1019 = .ok (.invokevirtual 130, 3) := by decide +kernel
theorem dL_law_1022 : decode cL_law 1022 = .ok (.aload_n 2, 1) := by decide +kernel
theorem dL_law_1023 : decode cL_law 1023 = .ok (.invokevirtual 134, 3) := by decide +kernel
theorem dL_law_1026 : decode cL_law 1026 = .ok (.lcmp, 1) := by decide +kernel
theorem dL_law_1027 : decode cL_law 1027 = .ok (.ifCond .eq 5, 3) := by decide +kernel
theorem dL_law_1030 : decode cL_law 1030 = .ok (.iconst 0, 1) := by decide +kernel
theorem dL_law_1031 : decode cL_law 1031 = .ok (.ireturn, 1) := by decide +kernel
theorem dL_law_1032 : decode cL_law 1032 = .ok (.iinc 3 5, 3) := by decide +kernel
theorem dL_law_1035 : decode cL_law 1035 = .ok (.goto (-1017), 3) := by decide +kernel
theorem dL_law_1038 : decode cL_law 1038 = .ok (.iconst 1, 1) := by decide +kernel
theorem dL_law_1039 : decode cL_law 1039 = .ok (.ireturn, 1) := by decide +kernel
end
section
/-! THE PICTURE: every int of the two systems is a place (object, slot) of one function; references never change behind the constructors -/
abbrev sp_V : Type := Int ⊕ (Int ⊕ Nat)
abbrev sp_G : Type := Nat → Int → Int
abbrev sp_P : Type := Option sp_V → sp_G → Prop
abbrev sp_M : Type := MethodName × ByteArray × Nat × Option FieldType
abbrev v_i (x : Int) : sp_V := .inl x
abbrev v_l (x : Int) : sp_V := .inr (.inl x)
abbrev v_r (k : Nat) : sp_V := .inr (.inr k)
def sp_cv (ad : Nat → Nat) : sp_V → Value
  | .inl x => .int (Int32.ofInt x)
  | .inr (.inl x) => .long (Int64.ofInt x)
  | .inr (.inr k) => .ref (ad k)
def sp_up (g : sp_G) (o : Nat) (i x : Int) : sp_G := fun p j => if p = o then (if j = i then x else g p j) else g p j
theorem sp_up_s (g : sp_G) (o : Nat) (i x : Int) : sp_up g o i x o i = x := by simp [sp_up]
theorem sp_up_o (g : sp_G) {o p : Nat} (i x j : Int) (h : p ≠ o) : sp_up g o i x p j = g p j := by simp [sp_up, h]
theorem sp_up_i (g : sp_G) (o p : Nat) {i j : Int} (x : Int) (h : j ≠ i) : sp_up g o i x p j = g p j := by simp [sp_up, h]
abbrev sp_S : Type := (Nat × List (Option Nat)) ⊕ (Nat × Nat × Option (Nat → Nat))
def sp_sh : List sp_S := [
  .inl (5, [some 1, some 5, some 39, some 45, some 49, none, none, none]),
  .inl (4, [some 2, some 3, some 4, none]),
  .inr (0, 24, none),
  .inr (0, 96, none),
  .inr (0, 24, none),
  .inl (1, [some 6, none, none]),
  .inr (4, 8, some (fun j => 7 + 4 * j)),
  .inl (4, [some 8, some 9, some 10, none]),
  .inr (0, 24, none),
  .inr (0, 96, none),
  .inr (0, 24, none),
  .inl (4, [some 12, some 13, some 14, none]),
  .inr (0, 24, none),
  .inr (0, 96, none),
  .inr (0, 24, none),
  .inl (4, [some 16, some 17, some 18, none]),
  .inr (0, 24, none),
  .inr (0, 96, none),
  .inr (0, 24, none),
  .inl (4, [some 20, some 21, some 22, none]),
  .inr (0, 24, none),
  .inr (0, 96, none),
  .inr (0, 24, none),
  .inl (4, [some 24, some 25, some 26, none]),
  .inr (0, 24, none),
  .inr (0, 96, none),
  .inr (0, 24, none),
  .inl (4, [some 28, some 29, some 30, none]),
  .inr (0, 24, none),
  .inr (0, 96, none),
  .inr (0, 24, none),
  .inl (4, [some 32, some 33, some 34, none]),
  .inr (0, 24, none),
  .inr (0, 96, none),
  .inr (0, 24, none),
  .inl (4, [some 36, some 37, some 38, none]),
  .inr (0, 24, none),
  .inr (0, 96, none),
  .inr (0, 24, none),
  .inl (3, [some 40, some 41, some 42, some 43, some 44, none]),
  .inr (0, 24, none),
  .inr (0, 24, none),
  .inr (0, 24, none),
  .inr (0, 24, none),
  .inr (2, 24, none),
  .inl (0, [none, none, none, some 46, some 47, some 48, none, none, none, none]),
  .inr (0, 12, none),
  .inr (0, 4, none),
  .inr (0, 4, none),
  .inl (2, [some 50, none, some 51, none, none, none, none]),
  .inr (1, 120, none),
  .inr (0, 150, none),
  .inl (6, [some 53, some 54, none, some 55, some 56, some 57, none, none, some 58, some 59, some 60, some 61, none, some 62, some 63, some 64, some 65, none, some 66, none]),
  .inr (0, 145, none),
  .inr (0, 1160, none),
  .inr (0, 3, none),
  .inr (0, 3, none),
  .inr (0, 120, none),
  .inr (0, 4, none),
  .inr (3, 24, none),
  .inr (0, 24, none),
  .inr (0, 24, none),
  .inr (0, 24, none),
  .inr (0, 24, none),
  .inr (0, 4, none),
  .inr (0, 4, none),
  .inr (0, 12, none)]
abbrev sp_cl : List vw_C := [(RX0, TX0, 10), (RX1, TX1, 3), (RX2, TX2, 7), (RX3, TX3, 6), (RX4, TX4, 4), (RX5, TX5, 8), (RX6, TX6, 20)]
abbrev sp_ty (cA : Nat → ClassId) : List (ClassId × FieldType) := [(cA 0, .int), (cA 1, .byte), (cA 2, .boolean), (cA 3, .char), (cA 4, .object "StylePapers$Town")]
def sp_fv (ad : Nat → Nat) (g : sp_G) (o : Nat) (k : Nat) (f : Option Nat) : Value := match f with
  | none => .int (Int32.ofInt (g o k))
  | some r => .ref (ad r)
def sp_ce (ad : Nat → Nat) (cA : Nat → ClassId) (g : sp_G) (o : Nat) (s : sp_S) : va_E := match s with
  | .inl (ci, fl) => .inr (ci, fl.mapIdx (sp_fv ad g o))
  | .inr (k, n, none) => .inl (cA k, n, .inl (fun j => Int32.ofInt (g o j)))
  | .inr (k, n, some f) => .inl (cA k, n, .inr (.inr (.inr (.inr (fun j => some (ad (f j)))))))
def sp_W (ad : Nat → Nat) (cA : Nat → ClassId) (g : sp_G) : va_W := sp_sh.mapIdx (fun o s => (ad o, sp_ce ad cA g o s))
theorem sp_Wg {ad : Nat → Nat} {cA : Nat → ClassId} (g : sp_G) {o : Nat} {s : sp_S} (h : sp_sh[o]? = some s) : (sp_W ad cA g)[o]? = some (ad o, sp_ce ad cA g o s) := by
  simp [sp_W, List.getElem?_mapIdx, h]
theorem sp_ce_o {ad : Nat → Nat} {cA : Nat → ClassId} {g : sp_G} {o p : Nat} {i x : Int} (s : sp_S) (h : p ≠ o) : sp_ce ad cA (sp_up g o i x) p s = sp_ce ad cA g p s := by
  have e : ∀ j, sp_up g o i x p j = g p j := fun j => sp_up_o g i x j h
  have e2 : sp_fv ad (sp_up g o i x) p = sp_fv ad g p := by
    funext k f
    cases f with
    | none => simp [sp_fv, e]
    | some r => rfl
  match s with
  | .inl (ci, fl) => simp [sp_ce, e2]
  | .inr (k, n, none) => simp [sp_ce, e]
  | .inr (k, n, some f) => rfl
theorem sp_Wset {ad : Nat → Nat} {cA : Nat → ClassId} {g : sp_G} {o : Nat} {i x : Int} {s : sp_S} (h : sp_sh[o]? = some s) : sp_W ad cA (sp_up g o i x) = (sp_W ad cA g).set o (ad o, sp_ce ad cA (sp_up g o i x) o s) := by
  apply List.ext_getElem?
  intro j
  by_cases hj : j = o
  · subst hj
    rw [sp_Wg _ h, List.getElem?_set_self]
    have := sp_Wg (ad := ad) (cA := cA) g h
    exact (List.getElem?_eq_some_iff.mp this).1
  · rw [List.getElem?_set_ne (fun e => hj e.symm)]
    simp only [sp_W, List.getElem?_mapIdx]
    cases hs : sp_sh[j]? with
    | none => simp
    | some t => simp [sp_ce_o t hj]
theorem sp_WsetF {ad : Nat → Nat} {cA : Nat → ClassId} {g : sp_G} {o k ci : Nat} {x : Int} {fl : List (Option Nat)} (h : sp_sh[o]? = some (.inl (ci, fl))) (hk : fl[k]? = some none) : (sp_W ad cA g).set o (ad o, .inr (ci, (fl.mapIdx (sp_fv ad g o)).set k (.int (Int32.ofInt x)))) = sp_W ad cA (sp_up g o k x) := by
  rw [sp_Wset h]
  congr 2
  simp only [sp_ce]
  congr 2
  apply List.ext_getElem?
  intro j
  by_cases hj : j = k
  · subst hj
    have hl := (List.getElem?_eq_some_iff.mp hk).1
    rw [List.getElem?_set_self (by simpa using hl)]
    simp [List.getElem?_mapIdx, hk, sp_fv, sp_up]
  · rw [List.getElem?_set_ne (fun e => hj e.symm)]
    simp only [List.getElem?_mapIdx]
    cases hs : fl[j]? with
    | none => simp
    | some t =>
      cases t with
      | none => simp only [Option.map_some, sp_fv, sp_up]; rw [if_pos trivial, if_neg (by omega)]
      | some r => simp [sp_fv]
theorem sp_WsetA {ad : Nat → Nat} {cA : Nat → ClassId} {g : sp_G} {o ki n : Nat} {i x : Int} (h : sp_sh[o]? = some (.inr (ki, n, none))) (hi : 0 ≤ i) : (sp_W ad cA g).set o (ad o, .inl (cA ki, n, .inl (upd (fun j => Int32.ofInt (g o j)) i.toNat (Int32.ofInt x)))) = sp_W ad cA (sp_up g o i x) := by
  rw [sp_Wset h]
  congr 2
  simp only [sp_ce]
  congr 3
  apply congrArg
  funext j
  by_cases hj : j = i.toNat
  · subst hj
    simp [upd, sp_up, Int.toNat_of_nonneg hi]
  · simp only [upd, if_neg hj, sp_up]
    rw [if_pos trivial, if_neg (by omega)]
/-- the cells that a method may change -/
def sp_A (ad : Nat → Nat) : Nat → Prop := fun q => ∃ o : Nat, o < 67 ∧ q = ad o
theorem sp_D {ad : Nat → Nat} {cA : Nat → ClassId} {A : Nat → Prop} {g : sp_G} (g2 : sp_G) (h : va_D A (sp_W ad cA g)) : va_D A (sp_W ad cA g2) := by
  have key : ∀ (i : Nat) (p : Nat × va_E), (sp_W ad cA g2)[i]? = some p → ∃ e, (sp_W ad cA g)[i]? = some (p.1, e) := by
    intro i p hp
    simp only [sp_W, List.getElem?_mapIdx] at hp ⊢
    cases hs : sp_sh[i]? with
    | none => simp [hs] at hp
    | some t => simp [hs] at hp; subst hp; exact ⟨_, rfl⟩
  refine ⟨fun i j p q hp hq e => ?_, fun k q hq => ?_⟩
  · obtain ⟨e1, h1⟩ := key i p hp
    obtain ⟨e2, h2⟩ := key j q hq
    exact h.1 i j _ _ h1 h2 e
  · obtain ⟨e1, h1⟩ := key k q hq
    exact h.2 k (q.1, e1) h1
/-! words -/
def sp_T : List Cond := lw_tbl.filter goodWord
def sp_ws (M : sp_M) : List Cond := .code M.1 M.2.1 M.2.2.1 M.2.2.2 :: sp_T
theorem sp_inT {w : Cond} (h : w ∈ lw_tbl) (hg : goodWord w = true) : w ∈ sp_T := List.mem_filter.mpr ⟨h, hg⟩
def sp_isN : Cond → Bool
  | .fieldLinkNest .. => true
  | .methodLinkNest .. => true
  | _ => false
def sp_Nst (U : State) : Prop := ∀ w ∈ lw_tbl, sp_isN w = true → va_Nw w U
theorem sp_Nst.warm {s U : State} (hW : s.WarmedH U.vm) (h : sp_Nst s) : sp_Nst U := by
  intro w hw hn
  have h1 := h w hw hn
  cases w <;> first | exact va_Nw.warmF hW h1 | exact va_Nw.warmM hW h1 | (cases hn)
theorem sp_Nst.same {s U : State} (hv : s.vm = U.vm) (h : sp_Nst s) : sp_Nst U := by
  intro w hw hn
  have h1 := h w hw hn
  cases w <;> first | exact va_Nw.same rfl hv h1 | (cases hn)
/-! what stands outside: static rows of numbers, the texts -/
def sp_num (k : Nat) : List Int := match k with
  | 0 => [1, 1, 4, 3, 2]
  | 1 => [3, 0, 0, 0, 3, 0, 0, 0, 3, 5, 23, 23, 3, 5, 8, 0, 23, 99, 0, 0]
  | _ => [0, 0, 0, 0, 0, 0, 0, 0, 0, 0, 0, 0, 0, 0, 1, 0, 0, 0, 0, 0]
def sp_nm (k : Nat) : String := match k with
  | 0 => "NUMBERS"
  | 1 => "GREATEST"
  | _ => "LEAST"
def sp_sx (i : Nat) : Nat := match i with
  | 0 => 87
  | 1 => 89
  | 2 => 91
  | 3 => 93
  | _ => 95
def sp_tx (i : Nat) : String := match i with
  | 0 => "on"
  | 1 => "off"
  | 2 => "put"
  | 3 => "names"
  | _ => "voters"
def sp_byt : List (List Int32) := [[111, 110], [111, 102, 102], [112, 117, 116], [110, 97, 109, 101, 115], [118, 111, 116, 101, 114, 115]]
def sp_len : List Nat := [2, 3, 3, 5, 6]
def sp_Ext (ad : Nat → Nat) (U : State) : Prop :=
  (∀ k : Nat, k < 3 → va_Z RX2 (sp_nm k) "[I" (.ref (ad (70 + k))) (sp_A ad) U U.heap ∧ va_T .int (ad (70 + k)) (sp_num k).length (fun j => .int (Int32.ofInt ((sp_num k).getD j 0))) (sp_A ad) U U.heap) ∧
  (∀ i : Nat, i < 5 → vk_R RX2 (sp_sx i) (sp_tx i) (ad (80 + i)) U) ∧ vk_S 5 sp_len sp_byt (fun i => ad (80 + i)) (fun i => ad (85 + i)) (sp_A ad) U U.heap ∧
  va_Z "java/lang/String" "COMPACT_STRINGS" "Z" (.int 1) (sp_A ad) U U.heap ∧ va_Zq "jdk/internal/util/Preconditions" "SIOOBE_FORMATTER" "Ljava/util/function/BiFunction;" (sp_A ad) U U.heap
theorem sp_Ext.mv {ad : Nat → Nat} {s U : State} (hW : s.WarmedH U.vm) (hq : ∀ a : Nat, a < s.heap.size → ¬ sp_A ad a → U.heap[a]? = s.heap[a]?) (h : sp_Ext ad s) : sp_Ext ad U := by
  obtain ⟨h1, h2, h3, h4, h5⟩ := h
  refine ⟨fun k hk => ⟨((h1 k hk).1.moved hW.alike).kept hq, ((h1 k hk).2.moved hW.alike).kept hq⟩, fun i hi => vk_R.warm hW (h2 i hi), (h3.moved hW.alike).kept hq, (h4.moved hW.alike).kept hq, ?_⟩
  rcases h5 with h5 | ⟨t, h5⟩
  · exact Or.inl ((h5.moved hW.alike).kept hq)
  · exact Or.inr ⟨t, (h5.moved hW.alike).kept hq⟩
theorem sp_Ext.same {ad : Nat → Nat} {s U : State} (hv : s.vm = U.vm) (hh : U.heap = s.heap) (h : sp_Ext ad s) : sp_Ext ad U := by
  refine sp_Ext.mv ?_ (fun a _ _ => by rw [hh]) h
  rw [← hv]
  exact State.WarmedH.refl s
/-! the contract, and the walk -/
def sp_Wd (D : va_G) (cA : Nat → ClassId) (ad : Nat → Nat) (g : sp_G) (U : State) : Prop := va_P D sp_cl (sp_W ad cA g) U.heap ∧ va_K D sp_cl (sp_ty cA) U ∧ va_D (sp_A ad) (sp_W ad cA g) ∧ sp_Nst U ∧ sp_Ext ad U
def sp_Q (D : va_G) (cA : Nat → ClassId) (ad : Nat → Nat) (Q : sp_P) : Array Value → State → Outcome → State → Prop := fun _ st oc t => (∃ (v : Option sp_V) (g2 : sp_G), oc = .returned (v.map (sp_cv ad)) ∧ Q v g2 ∧ va_P D sp_cl (sp_W ad cA g2) t.heap) ∧ va_F (sp_A ad) st t
def sp_rm (d : Nat) : Room := { frames := d, cells := 0, slots := 0, locals := 38 * d }
def sp_Met (d : Nat) (M : sp_M) (as : List sp_V) (g : sp_G) (Q : sp_P) : Prop := ∀ (l : Launch) (D : va_G) (cA : Nat → ClassId) (ad : Nat → Nat), Met l M.1 (sp_ws M) (sp_rm d) (va_Pc (as.map (sp_cv ad)) (sp_Wd D cA ad g)) (sp_Q D cA ad Q) 0 0 (sp_A ad)
def sp_lv (ad : Nat → Nat) : Nat → List (Option sp_V) → List (Nat × Value)
  | _, [] => []
  | k, none :: t => sp_lv ad (k + 1) t
  | k, some v :: t => (k, sp_cv ad v) :: sp_lv ad (k + 1) t
theorem sp_lv_mem {ad : Nat → Nat} {q : Nat × Value} : ∀ {L : List (Option sp_V)} {k : Nat}, q ∈ sp_lv ad k L ↔ ∃ i v, L[i]? = some (some v) ∧ q = (k + i, sp_cv ad v) := by
  intro L
  induction L with
  | nil => intro k; simp [sp_lv]
  | cons a t ih =>
    intro k
    cases a with
    | none =>
      rw [sp_lv, ih]
      constructor
      · rintro ⟨i, v, h1, h2⟩
        exact ⟨i + 1, v, by simpa using h1, by rw [h2]; congr 1; omega⟩
      · rintro ⟨i, v, h1, h2⟩
        cases i with
        | zero => simp at h1
        | succ i => exact ⟨i, v, by simpa using h1, by rw [h2]; congr 1; omega⟩
    | some x =>
      rw [sp_lv, List.mem_cons, ih]
      constructor
      · rintro (h | ⟨i, v, h1, h2⟩)
        · exact ⟨0, x, rfl, by rw [h]; rfl⟩
        · exact ⟨i + 1, v, by simpa using h1, by rw [h2]; congr 1; omega⟩
      · rintro ⟨i, v, h1, h2⟩
        cases i with
        | zero => simp at h1; subst h1; exact Or.inl (by rw [h2]; rfl)
        | succ i => exact Or.inr ⟨i, v, by simpa using h1, by rw [h2]; congr 1; omega⟩
def sp_Cx (l : Launch) (D : va_G) (cA : Nat → ClassId) (ad : Nat → Nat) (M : sp_M) (p : Program) (s : State) (m : MethodId) (args : Array Value) (meth : Method) (c : Code) : Prop :=
  p.tables.exec = Jvm.exec ∧ c.code = M.2.1 ∧ c.maxLocals = M.2.2.1 ∧ meth.sig.returnType = M.2.2.2 ∧ meth.locks = false ∧ s.vm.findClass M.1.cls = some m.cls ∧ (∀ w ∈ sp_ws M, w.before args s = true) ∧ va_K D sp_cl (sp_ty cA) s ∧ sp_Nst s ∧ sp_Ext ad s
def sp_AW (M : sp_M) (d pc : Nat) (L : List (Option sp_V)) (st : List sp_V) (g : sp_G) (Q : sp_P) : Prop :=
  ∀ (l : Launch) (D : va_G) (cA : Nat → ClassId) (ad : Nat → Nat) (p : Program) (e : Env) (s : State) (m : MethodId) (args : Array Value) (below : List Frame) (meth : Method) (c : Code), sp_Cx l D cA ad M p s m args meth c →
  ∀ (H : Heap) (locs : List Loc) (ls : Array Slot), va_P D sp_cl (sp_W ad cA g) H → va_D (sp_A ad) (sp_W ad cA g) → va_S (sp_A ad) s.heap H locs → lv_has ls M.2.2.1 (sp_lv ad 0 L) →
  W p l e (sp_rm d) s m args below meth c H locs 0 0 (MQ below (sp_Q D cA ad Q) args s 0 0 (sp_A ad)) (F0 m pc ls (st.map (sp_cv ad)))
def sp_psh : Option sp_V → List sp_V → List sp_V
  | none, st => st
  | some v, st => v :: st
def sp_nl : Option sp_V → Bool
  | some (.inr (.inl _)) => false
  | _ => true
def sp_ent (as : List sp_V) (n : Nat) : List (Option sp_V) := as.map some ++ List.replicate (n - as.length) none
/-- a method's contract out of a walk of its body -/
theorem sp_of {d : Nat} {M : sp_M} {as : List sp_V} {g : sp_G} {Q : sp_P} {L : List (Option sp_V)} (hpl : plainName M.1.cls = true) (hn : as.length ≤ M.2.2.1) (hnl : as.all (fun v => sp_nl (some v)) = true) (hL : sp_ent as M.2.2.1 = L) (k : sp_AW M d 0 L [] g Q) : sp_Met d M as g Q := by
  intro l D cA ad
  refine Met.ofW (cc := M.2.1) (maxL := M.2.2.1) (ret := M.2.2.2) hpl rfl ?_
  intro p e s m args below meth c s₁ B hml hv
  obtain ⟨rfl, hP, hK, hD, hN, hE⟩ := hv
  have hts := atoms_spec (ws := sp_ws M) B.pre
  have hown : s.vm.findClass M.1.cls = some m.cls := findClass_of_methodNamed B.named
  have hc1 : ∀ v ∈ as, ¬ (sp_cv ad v).category = 2 := by
    intro v hv
    have h1 := List.all_eq_true.mp hnl v hv
    match v with
    | .inl x => simp [sp_cv, Value.category]
    | .inr (.inl x) => simp [sp_nl] at h1
    | .inr (.inr k) => simp [sp_cv, Value.category]
  have hsl : ∀ (t : List sp_V), (∀ v ∈ t, ¬ (sp_cv ad v).category = 2) → lg_sl (t.map (sp_cv ad)) = t.map (fun v => Slot.val (sp_cv ad v)) := by
    intro t ht
    induction t with
    | nil => rfl
    | cons a t ih =>
      have h1 := ih (fun v hv => ht v (List.mem_cons_of_mem _ hv))
      simp only [lg_sl, List.map_cons, List.flatMap_cons, if_neg (ht a List.mem_cons_self)] at h1 ⊢
      rw [h1]; rfl
  have hlen : (lg_sl (as.map (sp_cv ad))).length = as.length := by rw [hsl as hc1]; simp
  have hl := lv_entry (as.map (sp_cv ad)) (n := M.2.2.1) (by rw [hlen]; exact hn)
  have hargs : ∀ (t : List sp_V) (k : Nat), (∀ v ∈ t, ¬ (sp_cv ad v).category = 2) → ∀ (r : Nat), ∀ q ∈ sp_lv ad k (t.map some ++ List.replicate r none), q ∈ lv_args k (t.map (sp_cv ad)) := by
    intro t
    induction t with
    | nil =>
      intro k _ r q hq
      exfalso
      obtain ⟨i, v, h1, -⟩ := sp_lv_mem.mp hq
      simp [List.getElem?_replicate] at h1
    | cons a t ih =>
      intro k ht r q hq
      simp only [List.map_cons, List.cons_append, sp_lv, List.mem_cons] at hq
      simp only [List.map_cons, lv_args, if_neg (ht a List.mem_cons_self), List.mem_cons]
      rcases hq with h | h
      · exact Or.inl h
      · exact Or.inr (ih (k + 1) (fun v hv => ht v (List.mem_cons_of_mem _ hv)) r q h)
  have hl2 : lv_has ((lg_sl (as.map (sp_cv ad)) ++ List.replicate (M.2.2.1 - (lg_sl (as.map (sp_cv ad))).length) Slot.unset).toArray) M.2.2.1 (sp_lv ad 0 L) := by
    refine ⟨hl.1, hl.2.1, fun q hq => hl.2.2 q ?_⟩
    rw [← hL] at hq
    exact hargs as 0 hc1 _ q hq
  rw [lg_entry_eq]
  exact k l D cA ad p e s m _ below meth c ⟨B.exec, B.bytes, hml, B.returns, B.notSynchronized, hown, hts, hK, hN, hE⟩ s.heap [] _ hP hD va_S.rf hl2
end
section
/-! numbers -/
theorem sp_t {x : Int} (h : -2147483648 ≤ x ∧ x < 2147483648) : (Int32.ofInt x).toInt = x := Int32.toInt_ofInt_of_le (by omega) (by omega)
theorem sp_t64 {x : Int} (h : -9223372036854775808 ≤ x ∧ x < 9223372036854775808) : (Int64.ofInt x).toInt = x := Int64.toInt_ofInt_of_le (by omega) (by omega)
theorem sp_cl0 {i : Int} {n : Nat} (h : 0 ≤ i ∧ i < n) (hn : n < 2147483648) : (Int32.ofInt i).toNatClampNeg = i.toNat := by
  rw [← Int32.toNat_toInt, sp_t (by omega)]
theorem sp_in0 {i : Int} {n : Nat} (h : 0 ≤ i ∧ i < n) (hn : n < 2147483648) : vp_in (Int32.ofInt i) n := by
  rw [vp_in_iff, sp_t (by omega)]
  exact h
theorem sp_eq {x y : Int} (hr : (-2147483648 ≤ x ∧ x < 2147483648) ∧ (-2147483648 ≤ y ∧ y < 2147483648)) : (Int32.ofInt x = Int32.ofInt y) ↔ x = y := by
  rw [← Int32.toInt_inj, sp_t hr.1, sp_t hr.2]
theorem sp_le {x y : Int} (hr : (-2147483648 ≤ x ∧ x < 2147483648) ∧ (-2147483648 ≤ y ∧ y < 2147483648)) : (Int32.ofInt x ≤ Int32.ofInt y) ↔ x ≤ y := by
  rw [Int32.le_iff_toInt_le, sp_t hr.1, sp_t hr.2]
theorem sp_lt {x y : Int} (hr : (-2147483648 ≤ x ∧ x < 2147483648) ∧ (-2147483648 ≤ y ∧ y < 2147483648)) : (Int32.ofInt x < Int32.ofInt y) ↔ x < y := by
  rw [Int32.lt_iff_toInt_lt, sp_t hr.1, sp_t hr.2]
theorem sp_z : (Int32.ofInt 0) = 0 := rfl
theorem sp_eq0 {x : Int} (hr : -2147483648 ≤ x ∧ x < 2147483648) : (Int32.ofInt x = 0) ↔ x = 0 := sp_eq (y := 0) ⟨hr, by omega⟩
theorem sp_div {x y : Int} (hr : (0 ≤ x ∧ x < 2147483648) ∧ (0 < y ∧ y < 2147483648)) : Int32.ofInt x / Int32.ofInt y = Int32.ofInt (x / y) := by
  have h0 : 0 ≤ x / y := Int.ediv_nonneg hr.1.1 (by omega)
  have h1 : x / y ≤ x := Int.ediv_le_self _ hr.1.1
  rw [← Int32.toInt_inj, Int32.toInt_div_of_ne_left, sp_t (x := x) (by omega), sp_t (x := y) (by omega), sp_t (by omega), Int.tdiv_eq_ediv_of_nonneg hr.1.1]
  intro e
  have := congrArg Int32.toInt e
  rw [sp_t (by omega)] at this
  rw [this] at hr
  exact absurd hr.1.1 (by decide)
theorem sp_rem {x y : Int} (hr : (0 ≤ x ∧ x < 2147483648) ∧ (0 < y ∧ y < 2147483648)) : Int32.ofInt x - Int32.ofInt x / Int32.ofInt y * Int32.ofInt y = Int32.ofInt (x % y) := by
  rw [sp_div hr, ← Int32.ofInt_mul, ← Int32.ofInt_sub]
  congr 1
  have := Int.mul_ediv_add_emod x y
  rw [Int.mul_comm] at this
  omega
theorem sp_ldiv {x y : Int} (hr : (0 ≤ x ∧ x < 9223372036854775808) ∧ (0 < y ∧ y < 9223372036854775808)) : Int64.ofInt x / Int64.ofInt y = Int64.ofInt (x / y) := by
  have h0 : 0 ≤ x / y := Int.ediv_nonneg hr.1.1 (by omega)
  have h1 : x / y ≤ x := Int.ediv_le_self _ hr.1.1
  rw [← Int64.toInt_inj, Int64.toInt_div_of_ne_left, sp_t64 (x := x) (by omega), sp_t64 (x := y) (by omega), sp_t64 (by omega), Int.tdiv_eq_ediv_of_nonneg hr.1.1]
  intro e
  have := congrArg Int64.toInt e
  rw [sp_t64 (by omega)] at this
  rw [this] at hr
  exact absurd hr.1.1 (by decide)
theorem sp_lrem {x y : Int} (hr : (0 ≤ x ∧ x < 9223372036854775808) ∧ (0 < y ∧ y < 9223372036854775808)) : Int64.ofInt x - Int64.ofInt x / Int64.ofInt y * Int64.ofInt y = Int64.ofInt (x % y) := by
  rw [sp_ldiv hr, ← Int64.ofInt_mul, ← Int64.ofInt_sub]
  congr 1
  have := Int.mul_ediv_add_emod x y
  rw [Int.mul_comm] at this
  omega
theorem sp_ne0 {y : Int} (h : 0 < y ∧ y < 2147483648) : ¬ Int32.ofInt y = 0 := by
  rw [sp_eq0 (by omega)]; omega
theorem sp_lne0 {y : Int} (h : 0 < y ∧ y < 9223372036854775808) : ¬ Int64.ofInt y = 0 := by
  intro e
  have := congrArg Int64.toInt e
  rw [sp_t64 (by omega)] at this
  rw [this] at h
  exact absurd h.1 (by decide)
def sp_and (x y : Int) : Int := (Int32.ofInt x &&& Int32.ofInt y).toInt
def sp_or (x y : Int) : Int := (Int32.ofInt x ||| Int32.ofInt y).toInt
def sp_xor (x y : Int) : Int := (Int32.ofInt x ^^^ Int32.ofInt y).toInt
def sp_shl (x y : Int) : Int := (Int32.ofInt x <<< (Int32.ofInt y &&& 31)).toInt
def sp_shr (x y : Int) : Int := (Int32.ofInt x >>> (Int32.ofInt y &&& 31)).toInt
def sp_c1 : sp_V → Bool
  | .inr (.inl _) => false
  | _ => true
theorem sp_c1_ok {ad : Nat → Nat} {v : sp_V} (h : sp_c1 v = true) : (sp_cv ad v).category = 1 := by
  match v with
  | .inl x => rfl
  | .inr (.inl x) => cases h
  | .inr (.inr k) => rfl
section RULES
variable {M : sp_M} {d pc : Nat} {L L2 : List (Option sp_V)} {st : List sp_V} {g : sp_G} {Q : sp_P}
theorem aw_iconst {n : Int} (hd : decode M.2.1 pc = .ok (.iconst n, 1)) (k : sp_AW M d (pc + 1) L (v_i n :: st) g Q) : sp_AW M d pc L (st) g Q := by
  intro l D cA ad p e s m args below meth c C H locs ls hP hD hS hl
  have K := k l D cA ad p e s m args below meth c C H locs ls hP hD hS hl
  refine lv_iconst (v := Int32.ofInt n) C.1 C.2.1 hd rfl ?_
  exact K
theorem aw_bipush {n : Int} (hd : decode M.2.1 pc = .ok (.bipush n, 2)) (hn : (Int8.ofInt n).toInt32 = Int32.ofInt n) (k : sp_AW M d (pc + 2) L (v_i n :: st) g Q) : sp_AW M d pc L (st) g Q := by
  intro l D cA ad p e s m args below meth c C H locs ls hP hD hS hl
  have K := k l D cA ad p e s m args below meth c C H locs ls hP hD hS hl
  refine lv_bipush (v := Int32.ofInt n) C.1 C.2.1 hd hn ?_
  exact K
theorem aw_sipush {n : Int} (hd : decode M.2.1 pc = .ok (.sipush n, 3)) (hn : (Int16.ofInt n).toInt32 = Int32.ofInt n) (k : sp_AW M d (pc + 3) L (v_i n :: st) g Q) : sp_AW M d pc L (st) g Q := by
  intro l D cA ad p e s m args below meth c C H locs ls hP hD hS hl
  have K := k l D cA ad p e s m args below meth c C H locs ls hP hD hS hl
  refine lv_sipush (v := Int32.ofInt n) C.1 C.2.1 hd hn ?_
  exact K
theorem aw_ldc {n : Int} {ix : Nat} (hd : decode M.2.1 pc = .ok (.ldc ix, 2)) (hw : Cond.constant M.1.cls ix (Int32.ofInt n) ∈ sp_T) (k : sp_AW M d (pc + 2) L (v_i n :: st) g Q) : sp_AW M d pc L (st) g Q := by
  intro l D cA ad p e s m args below meth c C H locs ls hP hD hS hl
  have K := k l D cA ad p e s m args below meth c C H locs ls hP hD hS hl
  refine lv_ldc C.1 C.2.1 C.2.2.2.2.2.1 (C.2.2.2.2.2.2.1 _ (List.mem_cons_of_mem _ hw)) hd ?_
  exact K
theorem aw_ldc2 {n : Int} {ix : Nat} (hd : decode M.2.1 pc = .ok (.ldc2_w ix, 3)) (hw : Cond.constantLong M.1.cls ix (Int64.ofInt n) ∈ sp_T) (k : sp_AW M d (pc + 3) L (v_l n :: st) g Q) : sp_AW M d pc L (st) g Q := by
  intro l D cA ad p e s m args below meth c C H locs ls hP hD hS hl
  have K := k l D cA ad p e s m args below meth c C H locs ls hP hD hS hl
  refine lv_ldc2 C.1 C.2.1 C.2.2.2.2.2.1 (C.2.2.2.2.2.2.1 _ (List.mem_cons_of_mem _ hw)) hd ?_
  exact K
theorem sp_ld {ad : Nat → Nat} {ls : Array Slot} {nL i : Nat} {L : List (Option sp_V)} {v : sp_V} (hl : lv_has ls nL (sp_lv ad 0 L)) (h : L[i]? = some (some v)) : ls[i]? = some (.val (sp_cv ad v)) := by
  have := hl.2.2 (0 + i, sp_cv ad v) (sp_lv_mem.mpr ⟨i, v, h, rfl⟩)
  simpa using this
theorem aw_iload {i : Nat} {x : Int} (hd : decode M.2.1 pc = .ok (.iload i, 2)) (h : L[i]? = some (some (v_i x))) (k : sp_AW M d (pc + 2) L (v_i x :: st) g Q) : sp_AW M d pc L (st) g Q := by
  intro l D cA ad p e s m args below meth c C H locs ls hP hD hS hl
  have K := k l D cA ad p e s m args below meth c C H locs ls hP hD hS hl
  refine lv_iload C.1 C.2.1 hd (sp_ld hl h) ?_
  exact K
theorem aw_iload_n {j : Fin 4} {x : Int} (hd : decode M.2.1 pc = .ok (.iload_n j, 1)) (h : L[(j : Nat)]? = some (some (v_i x))) (k : sp_AW M d (pc + 1) L (v_i x :: st) g Q) : sp_AW M d pc L (st) g Q := by
  intro l D cA ad p e s m args below meth c C H locs ls hP hD hS hl
  have K := k l D cA ad p e s m args below meth c C H locs ls hP hD hS hl
  refine lv_iload_n C.1 C.2.1 hd rfl (sp_ld hl h) ?_
  exact K
theorem aw_lload {i : Nat} {x : Int} (hd : decode M.2.1 pc = .ok (.lload i, 2)) (h : L[i]? = some (some (v_l x))) (k : sp_AW M d (pc + 2) L (v_l x :: st) g Q) : sp_AW M d pc L (st) g Q := by
  intro l D cA ad p e s m args below meth c C H locs ls hP hD hS hl
  have K := k l D cA ad p e s m args below meth c C H locs ls hP hD hS hl
  refine lv_lload C.1 C.2.1 hd (sp_ld hl h) ?_
  exact K
theorem aw_lload_n {j : Fin 4} {x : Int} (hd : decode M.2.1 pc = .ok (.lload_n j, 1)) (h : L[(j : Nat)]? = some (some (v_l x))) (k : sp_AW M d (pc + 1) L (v_l x :: st) g Q) : sp_AW M d pc L (st) g Q := by
  intro l D cA ad p e s m args below meth c C H locs ls hP hD hS hl
  have K := k l D cA ad p e s m args below meth c C H locs ls hP hD hS hl
  refine lv_lload_n C.1 C.2.1 hd rfl (sp_ld hl h) ?_
  exact K
theorem aw_aload {i : Nat} {x : Nat} (hd : decode M.2.1 pc = .ok (.aload i, 2)) (h : L[i]? = some (some (v_r x))) (k : sp_AW M d (pc + 2) L (v_r x :: st) g Q) : sp_AW M d pc L (st) g Q := by
  intro l D cA ad p e s m args below meth c C H locs ls hP hD hS hl
  have K := k l D cA ad p e s m args below meth c C H locs ls hP hD hS hl
  refine lv_aload C.1 C.2.1 hd (sp_ld hl h) ?_
  exact K
theorem aw_aload_n {j : Fin 4} {x : Nat} (hd : decode M.2.1 pc = .ok (.aload_n j, 1)) (h : L[(j : Nat)]? = some (some (v_r x))) (k : sp_AW M d (pc + 1) L (v_r x :: st) g Q) : sp_AW M d pc L (st) g Q := by
  intro l D cA ad p e s m args below meth c C H locs ls hP hD hS hl
  have K := k l D cA ad p e s m args below meth c C H locs ls hP hD hS hl
  refine lv_aload_n C.1 C.2.1 hd rfl (sp_ld hl h) ?_
  exact K
def sp_pl (L : List (Option sp_V)) (i : Nat) : Bool := match i with
  | 0 => true
  | j + 1 => match L[j]? with
    | some x => sp_nl x
    | none => true
theorem sp_pl_ok {ad : Nat → Nat} {L : List (Option sp_V)} {i j : Nat} {v : sp_V} (h : sp_pl L i = true) (hv : L[j]? = some (some v)) (hj : j + 1 = i) : ¬ (sp_cv ad v).category = 2 := by
  subst hj
  simp only [sp_pl, hv] at h
  match v with
  | .inl x => simp [sp_cv, Value.category]
  | .inr (.inl x) => simp [sp_nl] at h
  | .inr (.inr k) => simp [sp_cv, Value.category]
theorem sp_sto1 {ad : Nat → Nat} {ls : Array Slot} {nL i : Nat} {L : List (Option sp_V)} {v : sp_V} (hp : sp_pl L i = true) (h : lv_has ls nL ((i, sp_cv ad v) :: (sp_lv ad 0 L).filter (fun q => !(q.1 == i) && !(q.1 + 1 == i && q.2.category == 2)))) : lv_has ls nL (sp_lv ad 0 (L.set i (some v))) := by
  refine ⟨h.1, h.2.1, fun q hq => h.2.2 q ?_⟩
  obtain ⟨j, x, h1, rfl⟩ := sp_lv_mem.mp hq
  by_cases hj : j = i
  · subst hj
    have hlt : j < L.length := by
      have := (List.getElem?_eq_some_iff.mp h1).1
      simpa using this
    rw [List.getElem?_set_self hlt] at h1
    cases h1
    simp
  · rw [List.getElem?_set_ne (fun e => hj e.symm)] at h1
    refine List.mem_cons_of_mem _ (List.mem_filter.mpr ⟨sp_lv_mem.mpr ⟨j, x, h1, rfl⟩, ?_⟩)
    simp only [Nat.zero_add, Bool.and_eq_true, Bool.not_eq_true', beq_eq_false_iff_ne, ne_eq]
    refine ⟨hj, ?_⟩
    by_cases hj2 : j + 1 = i
    · have := sp_pl_ok (ad := ad) hp h1 hj2
      simp [this]
    · simp [hj2]
theorem sp_sto2 {ad : Nat → Nat} {ls : Array Slot} {nL i : Nat} {L : List (Option sp_V)} {v : sp_V} (hp : sp_pl L i = true) (h : lv_has ls nL ((i, sp_cv ad v) :: (sp_lv ad 0 L).filter (fun q => !(q.1 == i) && (!(q.1 == i + 1) && !(q.1 + 1 == i && q.2.category == 2))))) : lv_has ls nL (sp_lv ad 0 ((L.set i (some v)).set (i + 1) none)) := by
  refine ⟨h.1, h.2.1, fun q hq => h.2.2 q ?_⟩
  obtain ⟨j, x, h1, rfl⟩ := sp_lv_mem.mp hq
  by_cases hj3 : j = i + 1
  · subst hj3
    exfalso
    have hlt : i + 1 < ((L.set i (some v)).set (i + 1) none).length := (List.getElem?_eq_some_iff.mp h1).1
    rw [List.getElem?_set_self (by simpa using hlt)] at h1
    cases h1
  rw [List.getElem?_set_ne (fun e => hj3 e.symm)] at h1
  by_cases hj : j = i
  · subst hj
    have hlt : j < L.length := by
      have := (List.getElem?_eq_some_iff.mp h1).1
      simpa using this
    rw [List.getElem?_set_self hlt] at h1
    cases h1
    simp
  · rw [List.getElem?_set_ne (fun e => hj e.symm)] at h1
    refine List.mem_cons_of_mem _ (List.mem_filter.mpr ⟨sp_lv_mem.mpr ⟨j, x, h1, rfl⟩, ?_⟩)
    simp only [Nat.zero_add, Bool.and_eq_true, Bool.not_eq_true', beq_eq_false_iff_ne, ne_eq]
    refine ⟨hj, hj3, ?_⟩
    by_cases hj2 : j + 1 = i
    · have := sp_pl_ok (ad := ad) hp h1 hj2
      simp [this]
    · simp [hj2]
theorem aw_istore {i : Nat} {x : Int} (hd : decode M.2.1 pc = .ok (.istore i, 2)) (hn : i < M.2.2.1) (hp : sp_pl L i = true) (hL : L.set i (some (v_i x)) = L2) (k : sp_AW M d (pc + 2) L2 st g Q) : sp_AW M d pc L (v_i x :: st) g Q := by
  intro l D cA ad p e s m args below meth c C H locs ls hP hD hS hl
  subst hL
  exact lv_istore C.1 C.2.1 hd hl hn rfl (fun ls2 h2 => k l D cA ad p e s m args below meth c C H locs ls2 hP hD hS (sp_sto1 (v := v_i x) hp h2))
theorem aw_istore_n {j : Fin 4} {x : Int} (hd : decode M.2.1 pc = .ok (.istore_n j, 1)) (hn : (j : Nat) < M.2.2.1) (hp : sp_pl L (j : Nat) = true) (hL : L.set (j : Nat) (some (v_i x)) = L2) (k : sp_AW M d (pc + 1) L2 st g Q) : sp_AW M d pc L (v_i x :: st) g Q := by
  intro l D cA ad p e s m args below meth c C H locs ls hP hD hS hl
  subst hL
  exact lv_istore_n C.1 C.2.1 hd rfl hl hn rfl (fun ls2 h2 => k l D cA ad p e s m args below meth c C H locs ls2 hP hD hS (sp_sto1 (v := v_i x) hp h2))
theorem aw_astore {i : Nat} {x : Nat} (hd : decode M.2.1 pc = .ok (.astore i, 2)) (hn : i < M.2.2.1) (hp : sp_pl L i = true) (hL : L.set i (some (v_r x)) = L2) (k : sp_AW M d (pc + 2) L2 st g Q) : sp_AW M d pc L (v_r x :: st) g Q := by
  intro l D cA ad p e s m args below meth c C H locs ls hP hD hS hl
  subst hL
  exact lv_astore C.1 C.2.1 hd hl hn rfl (fun ls2 h2 => k l D cA ad p e s m args below meth c C H locs ls2 hP hD hS (sp_sto1 (v := v_r x) hp h2))
theorem aw_astore_n {j : Fin 4} {x : Nat} (hd : decode M.2.1 pc = .ok (.astore_n j, 1)) (hn : (j : Nat) < M.2.2.1) (hp : sp_pl L (j : Nat) = true) (hL : L.set (j : Nat) (some (v_r x)) = L2) (k : sp_AW M d (pc + 1) L2 st g Q) : sp_AW M d pc L (v_r x :: st) g Q := by
  intro l D cA ad p e s m args below meth c C H locs ls hP hD hS hl
  subst hL
  exact lv_astore_n C.1 C.2.1 hd rfl hl hn rfl (fun ls2 h2 => k l D cA ad p e s m args below meth c C H locs ls2 hP hD hS (sp_sto1 (v := v_r x) hp h2))
theorem aw_lstore {i : Nat} {x : Int} (hd : decode M.2.1 pc = .ok (.lstore i, 2)) (hn : i + 1 < M.2.2.1) (hp : sp_pl L i = true) (hL : (L.set i (some (v_l x))).set (i + 1) none = L2) (k : sp_AW M d (pc + 2) L2 st g Q) : sp_AW M d pc L (v_l x :: st) g Q := by
  intro l D cA ad p e s m args below meth c C H locs ls hP hD hS hl
  subst hL
  exact lv_lstore C.1 C.2.1 hd hl hn rfl (fun ls2 h2 => k l D cA ad p e s m args below meth c C H locs ls2 hP hD hS (sp_sto2 (v := v_l x) hp h2))
theorem aw_lstore_n {j : Fin 4} {x : Int} (hd : decode M.2.1 pc = .ok (.lstore_n j, 1)) (hn : (j : Nat) + 1 < M.2.2.1) (hp : sp_pl L (j : Nat) = true) (hL : (L.set (j : Nat) (some (v_l x))).set ((j : Nat) + 1) none = L2) (k : sp_AW M d (pc + 1) L2 st g Q) : sp_AW M d pc L (v_l x :: st) g Q := by
  intro l D cA ad p e s m args below meth c C H locs ls hP hD hS hl
  subst hL
  exact lv_lstore_n C.1 C.2.1 hd rfl hl hn rfl (fun ls2 h2 => k l D cA ad p e s m args below meth c C H locs ls2 hP hD hS (sp_sto2 (v := v_l x) hp h2))
theorem aw_iinc {i : Nat} {n x : Int} (hd : decode M.2.1 pc = .ok (.iinc i n, 3)) (h : L[i]? = some (some (v_i x))) (hn : i < M.2.2.1) (hp : sp_pl L i = true) (hL : L.set i (some (v_i (x + n))) = L2) (k : sp_AW M d (pc + 3) L2 st g Q) : sp_AW M d pc L st g Q := by
  intro l D cA ad p e s m args below meth c C H locs ls hP hD hS hl
  subst hL
  obtain ⟨k0, hk0⟩ := List.getElem?_of_mem (sp_lv_mem.mpr ⟨i, v_i x, h, rfl⟩ : ((0 + i, sp_cv ad (v_i x)) : Nat × Value) ∈ sp_lv ad 0 L)
  rw [Nat.zero_add] at hk0
  exact lv_iinc (k := k0) (v := Int32.ofInt (x + n)) C.1 C.2.1 hd hl hk0 (Int32.ofInt_add x n).symm hn rfl (fun ls2 h2 => k l D cA ad p e s m args below meth c C H locs ls2 hP hD hS (sp_sto1 (v := v_i (x + n)) hp h2))
theorem aw_iadd {x y : Int} (hd : decode M.2.1 pc = .ok (.iadd, 1)) (k : sp_AW M d (pc + 1) L (v_i (x + y) :: st) g Q) : sp_AW M d pc L (v_i y :: v_i x :: st) g Q := by
  intro l D cA ad p e s m args below meth c C H locs ls hP hD hS hl
  have K := k l D cA ad p e s m args below meth c C H locs ls hP hD hS hl
  refine lv_iadd C.1 C.2.1 hd ?_
  rw [← Int32.ofInt_add]
  exact K
theorem aw_isub {x y : Int} (hd : decode M.2.1 pc = .ok (.isub, 1)) (k : sp_AW M d (pc + 1) L (v_i (x - y) :: st) g Q) : sp_AW M d pc L (v_i y :: v_i x :: st) g Q := by
  intro l D cA ad p e s m args below meth c C H locs ls hP hD hS hl
  have K := k l D cA ad p e s m args below meth c C H locs ls hP hD hS hl
  refine lv_isub C.1 C.2.1 hd ?_
  rw [← Int32.ofInt_sub]
  exact K
theorem aw_imul {x y : Int} (hd : decode M.2.1 pc = .ok (.imul, 1)) (k : sp_AW M d (pc + 1) L (v_i (x * y) :: st) g Q) : sp_AW M d pc L (v_i y :: v_i x :: st) g Q := by
  intro l D cA ad p e s m args below meth c C H locs ls hP hD hS hl
  have K := k l D cA ad p e s m args below meth c C H locs ls hP hD hS hl
  refine lv_imul C.1 C.2.1 hd ?_
  rw [← Int32.ofInt_mul]
  exact K
theorem aw_ladd {x y : Int} (hd : decode M.2.1 pc = .ok (.ladd, 1)) (k : sp_AW M d (pc + 1) L (v_l (x + y) :: st) g Q) : sp_AW M d pc L (v_l y :: v_l x :: st) g Q := by
  intro l D cA ad p e s m args below meth c C H locs ls hP hD hS hl
  have K := k l D cA ad p e s m args below meth c C H locs ls hP hD hS hl
  refine lv_ladd C.1 C.2.1 hd ?_
  rw [← Int64.ofInt_add]
  exact K
theorem aw_lmul {x y : Int} (hd : decode M.2.1 pc = .ok (.lmul, 1)) (k : sp_AW M d (pc + 1) L (v_l (x * y) :: st) g Q) : sp_AW M d pc L (v_l y :: v_l x :: st) g Q := by
  intro l D cA ad p e s m args below meth c C H locs ls hP hD hS hl
  have K := k l D cA ad p e s m args below meth c C H locs ls hP hD hS hl
  refine lv_lmul C.1 C.2.1 hd ?_
  rw [← Int64.ofInt_mul]
  exact K
theorem aw_idiv {x y : Int} (hd : decode M.2.1 pc = .ok (.idiv, 1)) (hr : (0 ≤ x ∧ x < 2147483648) ∧ (0 < y ∧ y < 2147483648)) (k : sp_AW M d (pc + 1) L (v_i (x / y) :: st) g Q) : sp_AW M d pc L (v_i y :: v_i x :: st) g Q := by
  intro l D cA ad p e s m args below meth c C H locs ls hP hD hS hl
  have K := k l D cA ad p e s m args below meth c C H locs ls hP hD hS hl
  refine lv_idiv C.1 C.2.1 hd (sp_ne0 hr.2) ?_
  rw [sp_div hr]
  exact K
theorem aw_irem {x y : Int} (hd : decode M.2.1 pc = .ok (.irem, 1)) (hr : (0 ≤ x ∧ x < 2147483648) ∧ (0 < y ∧ y < 2147483648)) (k : sp_AW M d (pc + 1) L (v_i (x % y) :: st) g Q) : sp_AW M d pc L (v_i y :: v_i x :: st) g Q := by
  intro l D cA ad p e s m args below meth c C H locs ls hP hD hS hl
  have K := k l D cA ad p e s m args below meth c C H locs ls hP hD hS hl
  refine lv_irem C.1 C.2.1 hd (sp_ne0 hr.2) ?_
  rw [sp_rem hr]
  exact K
theorem aw_ldiv {x y : Int} (hd : decode M.2.1 pc = .ok (.ldiv, 1)) (hr : (0 ≤ x ∧ x < 9223372036854775808) ∧ (0 < y ∧ y < 9223372036854775808)) (k : sp_AW M d (pc + 1) L (v_l (x / y) :: st) g Q) : sp_AW M d pc L (v_l y :: v_l x :: st) g Q := by
  intro l D cA ad p e s m args below meth c C H locs ls hP hD hS hl
  have K := k l D cA ad p e s m args below meth c C H locs ls hP hD hS hl
  refine lv_ldiv C.1 C.2.1 hd (sp_lne0 hr.2) ?_
  rw [sp_ldiv hr]
  exact K
theorem aw_lrem {x y : Int} (hd : decode M.2.1 pc = .ok (.lrem, 1)) (hr : (0 ≤ x ∧ x < 9223372036854775808) ∧ (0 < y ∧ y < 9223372036854775808)) (k : sp_AW M d (pc + 1) L (v_l (x % y) :: st) g Q) : sp_AW M d pc L (v_l y :: v_l x :: st) g Q := by
  intro l D cA ad p e s m args below meth c C H locs ls hP hD hS hl
  have K := k l D cA ad p e s m args below meth c C H locs ls hP hD hS hl
  refine lv_lrem C.1 C.2.1 hd (sp_lne0 hr.2) ?_
  rw [sp_lrem hr]
  exact K
theorem aw_iand {x y : Int} (hd : decode M.2.1 pc = .ok (.iand, 1)) (k : sp_AW M d (pc + 1) L (v_i (sp_and x y) :: st) g Q) : sp_AW M d pc L (v_i y :: v_i x :: st) g Q := by
  intro l D cA ad p e s m args below meth c C H locs ls hP hD hS hl
  have K := k l D cA ad p e s m args below meth c C H locs ls hP hD hS hl
  refine lv_iand C.1 C.2.1 hd ?_
  simp only [List.map_cons, sp_cv, sp_and, Int32.ofInt_toInt] at K
  exact K
theorem aw_ior {x y : Int} (hd : decode M.2.1 pc = .ok (.ior, 1)) (k : sp_AW M d (pc + 1) L (v_i (sp_or x y) :: st) g Q) : sp_AW M d pc L (v_i y :: v_i x :: st) g Q := by
  intro l D cA ad p e s m args below meth c C H locs ls hP hD hS hl
  have K := k l D cA ad p e s m args below meth c C H locs ls hP hD hS hl
  refine lv_ior C.1 C.2.1 hd ?_
  simp only [List.map_cons, sp_cv, sp_or, Int32.ofInt_toInt] at K
  exact K
theorem aw_ixor {x y : Int} (hd : decode M.2.1 pc = .ok (.ixor, 1)) (k : sp_AW M d (pc + 1) L (v_i (sp_xor x y) :: st) g Q) : sp_AW M d pc L (v_i y :: v_i x :: st) g Q := by
  intro l D cA ad p e s m args below meth c C H locs ls hP hD hS hl
  have K := k l D cA ad p e s m args below meth c C H locs ls hP hD hS hl
  refine lv_ixor C.1 C.2.1 hd ?_
  simp only [List.map_cons, sp_cv, sp_xor, Int32.ofInt_toInt] at K
  exact K
theorem aw_ishl {x y : Int} (hd : decode M.2.1 pc = .ok (.ishl, 1)) (k : sp_AW M d (pc + 1) L (v_i (sp_shl x y) :: st) g Q) : sp_AW M d pc L (v_i y :: v_i x :: st) g Q := by
  intro l D cA ad p e s m args below meth c C H locs ls hP hD hS hl
  have K := k l D cA ad p e s m args below meth c C H locs ls hP hD hS hl
  refine lv_ishl C.1 C.2.1 hd ?_
  simp only [List.map_cons, sp_cv, sp_shl, Int32.ofInt_toInt] at K
  exact K
theorem aw_ishr {x y : Int} (hd : decode M.2.1 pc = .ok (.ishr, 1)) (k : sp_AW M d (pc + 1) L (v_i (sp_shr x y) :: st) g Q) : sp_AW M d pc L (v_i y :: v_i x :: st) g Q := by
  intro l D cA ad p e s m args below meth c C H locs ls hP hD hS hl
  have K := k l D cA ad p e s m args below meth c C H locs ls hP hD hS hl
  refine lv_ishr C.1 C.2.1 hd ?_
  simp only [List.map_cons, sp_cv, sp_shr, Int32.ofInt_toInt] at K
  exact K
theorem aw_i2l {x : Int} (hd : decode M.2.1 pc = .ok (.i2l, 1)) (hr : -2147483648 ≤ x ∧ x < 2147483648) (k : sp_AW M d (pc + 1) L (v_l x :: st) g Q) : sp_AW M d pc L (v_i x :: st) g Q := by
  intro l D cA ad p e s m args below meth c C H locs ls hP hD hS hl
  have K := k l D cA ad p e s m args below meth c C H locs ls hP hD hS hl
  refine lv_i2l (v := Int64.ofInt x) C.1 C.2.1 hd (Int32.toInt64_ofInt (by have : Int32.minValue.toInt = -2147483648 := rfl; omega) (by have : Int32.maxValue.toInt = 2147483647 := rfl; omega)) ?_
  exact K
theorem aw_l2i {x : Int} (hd : decode M.2.1 pc = .ok (.l2i, 1)) (k : sp_AW M d (pc + 1) L (v_i x :: st) g Q) : sp_AW M d pc L (v_l x :: st) g Q := by
  intro l D cA ad p e s m args below meth c C H locs ls hP hD hS hl
  have K := k l D cA ad p e s m args below meth c C H locs ls hP hD hS hl
  refine lv_l2i (v := Int32.ofInt x) C.1 C.2.1 hd Int64.toInt32_ofInt ?_
  exact K
theorem sp_b {x : Int} (h : -128 ≤ x ∧ x < 128) : (Int32.ofInt x).toInt8.toInt32 = Int32.ofInt x := by
  rw [← Int32.toInt_inj]
  rw [sp_t (by omega)]
  simp only [Int8.toInt_toInt32, Int32.toInt_toInt8]
  rw [sp_t (by omega)]
  rw [Int.bmod_eq_of_le (by omega) (by omega)]
theorem aw_i2b {x : Int} (hd : decode M.2.1 pc = .ok (.i2b, 1)) (hr : -128 ≤ x ∧ x < 128) (k : sp_AW M d (pc + 1) L (v_i x :: st) g Q) : sp_AW M d pc L (v_i x :: st) g Q := by
  intro l D cA ad p e s m args below meth c C H locs ls hP hD hS hl
  have K := k l D cA ad p e s m args below meth c C H locs ls hP hD hS hl
  refine lv_i2b (v := Int32.ofInt x) C.1 C.2.1 hd (sp_b hr) ?_
  exact K
theorem aw_dup {v : sp_V} (hd : decode M.2.1 pc = .ok (.dup, 1)) (hc : sp_c1 v = true) (k : sp_AW M d (pc + 1) L (v :: v :: st) g Q) : sp_AW M d pc L (v :: st) g Q := by
  intro l D cA ad p e s m args below meth c C H locs ls hP hD hS hl
  have K := k l D cA ad p e s m args below meth c C H locs ls hP hD hS hl
  refine lv_dup C.1 C.2.1 hd (sp_c1_ok hc) ?_
  exact K
theorem aw_dup2 {v u : sp_V} (hd : decode M.2.1 pc = .ok (.dup2, 1)) (hc : sp_c1 v = true) (hc2 : sp_c1 u = true) (k : sp_AW M d (pc + 1) L (v :: u :: v :: u :: st) g Q) : sp_AW M d pc L (v :: u :: st) g Q := by
  intro l D cA ad p e s m args below meth c C H locs ls hP hD hS hl
  have K := k l D cA ad p e s m args below meth c C H locs ls hP hD hS hl
  refine lv_dup2_11 C.1 C.2.1 hd (sp_c1_ok hc) (sp_c1_ok hc2) ?_
  exact K
theorem aw_pop {v : sp_V} (hd : decode M.2.1 pc = .ok (.pop, 1)) (hc : sp_c1 v = true) (k : sp_AW M d (pc + 1) L (st) g Q) : sp_AW M d pc L (v :: st) g Q := by
  intro l D cA ad p e s m args below meth c C H locs ls hP hD hS hl
  have K := k l D cA ad p e s m args below meth c C H locs ls hP hD hS hl
  refine lv_pop C.1 C.2.1 hd (sp_c1_ok hc) ?_
  exact K
theorem aw_goto {off : Int} {tg : Nat} (hd : decode M.2.1 pc = .ok (.goto off, 3)) (ht : (pc : Int) + off = (tg : Int)) (k : sp_AW M d tg L st g Q) : sp_AW M d pc L st g Q := by
  intro l D cA ad p e s m args below meth c C H locs ls hP hD hS hl
  exact lv_goto C.1 C.2.1 hd ht (k l D cA ad p e s m args below meth c C H locs ls hP hD hS hl)
theorem aw_icmp_lt {x y : Int} {off : Int} {tg : Nat} (hd : decode M.2.1 pc = .ok (.if_icmp .lt off, 3)) (ht : (pc : Int) + off = (tg : Int)) (hr : (-2147483648 ≤ x ∧ x < 2147483648) ∧ (-2147483648 ≤ y ∧ y < 2147483648)) (kt : x < y → sp_AW M d tg L st g Q) (kf : ¬ (x < y) → sp_AW M d (pc + 3) L st g Q) : sp_AW M d pc L (v_i y :: v_i x :: st) g Q := by
  intro l D cA ad p e s m args below meth c C H locs ls hP hD hS hl
  exact lv_icmp_lt C.1 C.2.1 hd ht (fun h => kt ((sp_lt hr).mp h) l D cA ad p e s m args below meth c C H locs ls hP hD hS hl) (fun h => kf ((fun q => h ((sp_lt hr).mpr q))) l D cA ad p e s m args below meth c C H locs ls hP hD hS hl)
theorem aw_icmp_ge {x y : Int} {off : Int} {tg : Nat} (hd : decode M.2.1 pc = .ok (.if_icmp .ge off, 3)) (ht : (pc : Int) + off = (tg : Int)) (hr : (-2147483648 ≤ x ∧ x < 2147483648) ∧ (-2147483648 ≤ y ∧ y < 2147483648)) (kt : y ≤ x → sp_AW M d tg L st g Q) (kf : ¬ (y ≤ x) → sp_AW M d (pc + 3) L st g Q) : sp_AW M d pc L (v_i y :: v_i x :: st) g Q := by
  intro l D cA ad p e s m args below meth c C H locs ls hP hD hS hl
  exact lv_icmp_ge C.1 C.2.1 hd ht (fun h => kt ((sp_le (x := y) (y := x) ⟨hr.2, hr.1⟩).mp h) l D cA ad p e s m args below meth c C H locs ls hP hD hS hl) (fun h => kf ((fun q => h ((sp_le (x := y) (y := x) ⟨hr.2, hr.1⟩).mpr q))) l D cA ad p e s m args below meth c C H locs ls hP hD hS hl)
theorem aw_icmp_gt {x y : Int} {off : Int} {tg : Nat} (hd : decode M.2.1 pc = .ok (.if_icmp .gt off, 3)) (ht : (pc : Int) + off = (tg : Int)) (hr : (-2147483648 ≤ x ∧ x < 2147483648) ∧ (-2147483648 ≤ y ∧ y < 2147483648)) (kt : y < x → sp_AW M d tg L st g Q) (kf : ¬ (y < x) → sp_AW M d (pc + 3) L st g Q) : sp_AW M d pc L (v_i y :: v_i x :: st) g Q := by
  intro l D cA ad p e s m args below meth c C H locs ls hP hD hS hl
  exact lv_icmp_gt C.1 C.2.1 hd ht (fun h => kt ((sp_lt (x := y) (y := x) ⟨hr.2, hr.1⟩).mp h) l D cA ad p e s m args below meth c C H locs ls hP hD hS hl) (fun h => kf ((fun q => h ((sp_lt (x := y) (y := x) ⟨hr.2, hr.1⟩).mpr q))) l D cA ad p e s m args below meth c C H locs ls hP hD hS hl)
theorem aw_icmp_le {x y : Int} {off : Int} {tg : Nat} (hd : decode M.2.1 pc = .ok (.if_icmp .le off, 3)) (ht : (pc : Int) + off = (tg : Int)) (hr : (-2147483648 ≤ x ∧ x < 2147483648) ∧ (-2147483648 ≤ y ∧ y < 2147483648)) (kt : x ≤ y → sp_AW M d tg L st g Q) (kf : ¬ (x ≤ y) → sp_AW M d (pc + 3) L st g Q) : sp_AW M d pc L (v_i y :: v_i x :: st) g Q := by
  intro l D cA ad p e s m args below meth c C H locs ls hP hD hS hl
  exact lv_icmp_le C.1 C.2.1 hd ht (fun h => kt ((sp_le hr).mp h) l D cA ad p e s m args below meth c C H locs ls hP hD hS hl) (fun h => kf ((fun q => h ((sp_le hr).mpr q))) l D cA ad p e s m args below meth c C H locs ls hP hD hS hl)
theorem aw_icmp_eq {x y : Int} {off : Int} {tg : Nat} (hd : decode M.2.1 pc = .ok (.if_icmp .eq off, 3)) (ht : (pc : Int) + off = (tg : Int)) (hr : (-2147483648 ≤ x ∧ x < 2147483648) ∧ (-2147483648 ≤ y ∧ y < 2147483648)) (kt : x = y → sp_AW M d tg L st g Q) (kf : ¬ (x = y) → sp_AW M d (pc + 3) L st g Q) : sp_AW M d pc L (v_i y :: v_i x :: st) g Q := by
  intro l D cA ad p e s m args below meth c C H locs ls hP hD hS hl
  exact lv_icmp_eq C.1 C.2.1 hd ht (fun h => kt ((sp_eq hr).mp h) l D cA ad p e s m args below meth c C H locs ls hP hD hS hl) (fun h => kf ((fun q => h ((sp_eq hr).mpr q))) l D cA ad p e s m args below meth c C H locs ls hP hD hS hl)
theorem aw_icmp_ne {x y : Int} {off : Int} {tg : Nat} (hd : decode M.2.1 pc = .ok (.if_icmp .ne off, 3)) (ht : (pc : Int) + off = (tg : Int)) (hr : (-2147483648 ≤ x ∧ x < 2147483648) ∧ (-2147483648 ≤ y ∧ y < 2147483648)) (kt : ¬ x = y → sp_AW M d tg L st g Q) (kf : x = y → sp_AW M d (pc + 3) L st g Q) : sp_AW M d pc L (v_i y :: v_i x :: st) g Q := by
  intro l D cA ad p e s m args below meth c C H locs ls hP hD hS hl
  exact lv_icmp_ne C.1 C.2.1 hd ht (fun h => kt ((not_congr (sp_eq hr)).mp h) l D cA ad p e s m args below meth c C H locs ls hP hD hS hl) (fun h => kf (((sp_eq hr).mp h)) l D cA ad p e s m args below meth c C H locs ls hP hD hS hl)
theorem aw_if_lt {x : Int} {off : Int} {tg : Nat} (hd : decode M.2.1 pc = .ok (.ifCond .lt off, 3)) (ht : (pc : Int) + off = (tg : Int)) (hr : -2147483648 ≤ x ∧ x < 2147483648) (kt : x < 0 → sp_AW M d tg L st g Q) (kf : ¬ (x < 0) → sp_AW M d (pc + 3) L st g Q) : sp_AW M d pc L (v_i x :: st) g Q := by
  intro l D cA ad p e s m args below meth c C H locs ls hP hD hS hl
  exact lv_if_lt C.1 C.2.1 hd ht (fun h => kt ((sp_lt (y := 0) ⟨hr, by omega⟩).mp h) l D cA ad p e s m args below meth c C H locs ls hP hD hS hl) (fun h => kf ((fun q => h ((sp_lt (y := 0) ⟨hr, by omega⟩).mpr q))) l D cA ad p e s m args below meth c C H locs ls hP hD hS hl)
theorem aw_if_ge {x : Int} {off : Int} {tg : Nat} (hd : decode M.2.1 pc = .ok (.ifCond .ge off, 3)) (ht : (pc : Int) + off = (tg : Int)) (hr : -2147483648 ≤ x ∧ x < 2147483648) (kt : 0 ≤ x → sp_AW M d tg L st g Q) (kf : ¬ (0 ≤ x) → sp_AW M d (pc + 3) L st g Q) : sp_AW M d pc L (v_i x :: st) g Q := by
  intro l D cA ad p e s m args below meth c C H locs ls hP hD hS hl
  exact lv_if_ge C.1 C.2.1 hd ht (fun h => kt ((sp_le (x := 0) (y := x) ⟨by omega, hr⟩).mp h) l D cA ad p e s m args below meth c C H locs ls hP hD hS hl) (fun h => kf ((fun q => h ((sp_le (x := 0) (y := x) ⟨by omega, hr⟩).mpr q))) l D cA ad p e s m args below meth c C H locs ls hP hD hS hl)
theorem aw_if_gt {x : Int} {off : Int} {tg : Nat} (hd : decode M.2.1 pc = .ok (.ifCond .gt off, 3)) (ht : (pc : Int) + off = (tg : Int)) (hr : -2147483648 ≤ x ∧ x < 2147483648) (kt : 0 < x → sp_AW M d tg L st g Q) (kf : ¬ (0 < x) → sp_AW M d (pc + 3) L st g Q) : sp_AW M d pc L (v_i x :: st) g Q := by
  intro l D cA ad p e s m args below meth c C H locs ls hP hD hS hl
  exact lv_if_gt C.1 C.2.1 hd ht (fun h => kt ((sp_lt (x := 0) (y := x) ⟨by omega, hr⟩).mp h) l D cA ad p e s m args below meth c C H locs ls hP hD hS hl) (fun h => kf ((fun q => h ((sp_lt (x := 0) (y := x) ⟨by omega, hr⟩).mpr q))) l D cA ad p e s m args below meth c C H locs ls hP hD hS hl)
theorem aw_if_le {x : Int} {off : Int} {tg : Nat} (hd : decode M.2.1 pc = .ok (.ifCond .le off, 3)) (ht : (pc : Int) + off = (tg : Int)) (hr : -2147483648 ≤ x ∧ x < 2147483648) (kt : x ≤ 0 → sp_AW M d tg L st g Q) (kf : ¬ (x ≤ 0) → sp_AW M d (pc + 3) L st g Q) : sp_AW M d pc L (v_i x :: st) g Q := by
  intro l D cA ad p e s m args below meth c C H locs ls hP hD hS hl
  exact lv_if_le C.1 C.2.1 hd ht (fun h => kt ((sp_le (y := 0) ⟨hr, by omega⟩).mp h) l D cA ad p e s m args below meth c C H locs ls hP hD hS hl) (fun h => kf ((fun q => h ((sp_le (y := 0) ⟨hr, by omega⟩).mpr q))) l D cA ad p e s m args below meth c C H locs ls hP hD hS hl)
theorem aw_if_eq {x : Int} {off : Int} {tg : Nat} (hd : decode M.2.1 pc = .ok (.ifCond .eq off, 3)) (ht : (pc : Int) + off = (tg : Int)) (hr : -2147483648 ≤ x ∧ x < 2147483648) (kt : x = 0 → sp_AW M d tg L st g Q) (kf : ¬ (x = 0) → sp_AW M d (pc + 3) L st g Q) : sp_AW M d pc L (v_i x :: st) g Q := by
  intro l D cA ad p e s m args below meth c C H locs ls hP hD hS hl
  exact lv_if_eq C.1 C.2.1 hd ht (fun h => kt ((sp_eq0 hr).mp h) l D cA ad p e s m args below meth c C H locs ls hP hD hS hl) (fun h => kf ((fun q => h ((sp_eq0 hr).mpr q))) l D cA ad p e s m args below meth c C H locs ls hP hD hS hl)
theorem aw_if_ne {x : Int} {off : Int} {tg : Nat} (hd : decode M.2.1 pc = .ok (.ifCond .ne off, 3)) (ht : (pc : Int) + off = (tg : Int)) (hr : -2147483648 ≤ x ∧ x < 2147483648) (kt : ¬ x = 0 → sp_AW M d tg L st g Q) (kf : x = 0 → sp_AW M d (pc + 3) L st g Q) : sp_AW M d pc L (v_i x :: st) g Q := by
  intro l D cA ad p e s m args below meth c C H locs ls hP hD hS hl
  exact lv_if_ne C.1 C.2.1 hd ht (fun h => kt ((not_congr (sp_eq0 hr)).mp h) l D cA ad p e s m args below meth c C H locs ls hP hD hS hl) (fun h => kf (((sp_eq0 hr).mp h)) l D cA ad p e s m args below meth c C H locs ls hP hD hS hl)
abbrev sp_bl (c : Prop) [Decidable c] : Int := if c then 1 else 0
theorem aw_ifeq_b {b : Prop} [Decidable b] {off : Int} {tg : Nat} (hd : decode M.2.1 pc = .ok (.ifCond .eq off, 3)) (ht : (pc : Int) + off = (tg : Int)) (kt : ¬ b → sp_AW M d tg L st g Q) (kf : b → sp_AW M d (pc + 3) L st g Q) : sp_AW M d pc L (v_i (sp_bl b) :: st) g Q := by
  refine aw_if_eq hd ht (by by_cases h : b <;> simp [sp_bl, h]) (fun h => kt (fun q => ?_)) (fun h => kf ?_)
  · simp [sp_bl, q] at h
  · by_cases q : b
    · exact q
    · exact absurd (by simp [sp_bl, q]) h
theorem aw_ifne_b {b : Prop} [Decidable b] {off : Int} {tg : Nat} (hd : decode M.2.1 pc = .ok (.ifCond .ne off, 3)) (ht : (pc : Int) + off = (tg : Int)) (kt : b → sp_AW M d tg L st g Q) (kf : ¬ b → sp_AW M d (pc + 3) L st g Q) : sp_AW M d pc L (v_i (sp_bl b) :: st) g Q := by
  refine aw_if_ne hd ht (by by_cases h : b <;> simp [sp_bl, h]) (fun h => kt ?_) (fun h => kf (fun q => ?_))
  · by_cases q : b
    · exact q
    · exact absurd (by simp [sp_bl, q]) h
  · simp [sp_bl, q] at h
theorem aw_tin {df lo hi : Int} {offs : Array Int} {ln : Nat} {x off : Int} {tg : Nat} (hd : decode M.2.1 pc = .ok (.tableswitch df lo hi offs, ln)) (hr : -2147483648 ≤ x ∧ x < 2147483648) (h1 : lo ≤ x ∧ x ≤ hi) (ho : offs[(x - lo).toNat]? = some off) (ht : (pc : Int) + off = (tg : Int)) (k : sp_AW M d tg L st g Q) : sp_AW M d pc L (v_i x :: st) g Q := by
  intro l D cA ad p e s m args below meth c C H locs ls hP hD hS hl
  exact lv_tableIn C.1 C.2.1 hd (by rw [sp_t hr]; omega) (by rw [sp_t hr]; omega) (by rw [sp_t hr]; exact ho) ht (k l D cA ad p e s m args below meth c C H locs ls hP hD hS hl)
theorem aw_tout {df lo hi : Int} {offs : Array Int} {ln : Nat} {x : Int} {tg : Nat} (hd : decode M.2.1 pc = .ok (.tableswitch df lo hi offs, ln)) (hr : -2147483648 ≤ x ∧ x < 2147483648) (h1 : x < lo ∨ hi < x) (ht : (pc : Int) + df = (tg : Int)) (k : sp_AW M d tg L st g Q) : sp_AW M d pc L (v_i x :: st) g Q := by
  intro l D cA ad p e s m args below meth c C H locs ls hP hD hS hl
  exact lv_tableOut C.1 C.2.1 hd (by rw [sp_t hr]; exact h1) ht (k l D cA ad p e s m args below meth c C H locs ls hP hD hS hl)
theorem sp_inX0 : ∀ w ∈ u_ws RX0 TX0 10, w ∈ sp_T := by decide +kernel
theorem sp_inX1 : ∀ w ∈ u_ws RX1 TX1 3, w ∈ sp_T := by decide +kernel
theorem sp_inX2 : ∀ w ∈ u_ws RX2 TX2 7, w ∈ sp_T := by decide +kernel
theorem sp_inX3 : ∀ w ∈ u_ws RX3 TX3 6, w ∈ sp_T := by decide +kernel
theorem sp_inX4 : ∀ w ∈ u_ws RX4 TX4 4, w ∈ sp_T := by decide +kernel
theorem sp_inX5 : ∀ w ∈ u_ws RX5 TX5 8, w ∈ sp_T := by decide +kernel
theorem sp_inX6 : ∀ w ∈ u_ws RX6 TX6 20, w ∈ sp_T := by decide +kernel
theorem sp_inX {ci : Nat} {C : String} {T : u_T} {N : Nat} (h : sp_cl[ci]? = some (C, T, N)) : ∀ w ∈ u_ws C T N, w ∈ sp_T := by
  match ci, h with
  | 0, h => cases h; exact sp_inX0
  | 1, h => cases h; exact sp_inX1
  | 2, h => cases h; exact sp_inX2
  | 3, h => cases h; exact sp_inX3
  | 4, h => cases h; exact sp_inX4
  | 5, h => cases h; exact sp_inX5
  | 6, h => cases h; exact sp_inX6
  | n + 7, h => simp at h
theorem sp_nmX {ci : Nat} {C : String} {T : u_T} {N : Nat} (h : sp_cl[ci]? = some (C, T, N)) : ∀ a, a < N → ∀ b, b < N → a ≠ b → (T a).2.1 ≠ (T b).2.1 := by
  match ci, h with
  | 0, h => cases h; exact nmX0
  | 1, h => cases h; exact nmX1
  | 2, h => cases h; exact nmX2
  | 3, h => cases h; exact nmX3
  | 4, h => cases h; exact nmX4
  | 5, h => cases h; exact nmX5
  | 6, h => cases h; exact nmX6
  | n + 7, h => simp at h
theorem sp_tyX {ci : Nat} {C : String} {T : u_T} {N : Nat} (h : sp_cl[ci]? = some (C, T, N)) : ∃ ty0 : Nat → FieldType, ∀ k, k < N → parseFieldDescriptor (T k).2.2.1 = some (ty0 k) := by
  match ci, h with
  | 0, h => cases h; exact ⟨_, tyX0_ok⟩
  | 1, h => cases h; exact ⟨_, tyX1_ok⟩
  | 2, h => cases h; exact ⟨_, tyX2_ok⟩
  | 3, h => cases h; exact ⟨_, tyX3_ok⟩
  | 4, h => cases h; exact ⟨_, tyX4_ok⟩
  | 5, h => cases h; exact ⟨_, tyX5_ok⟩
  | 6, h => cases h; exact ⟨_, tyX6_ok⟩
  | n + 7, h => simp at h
/-- a field's link: class number, slot, index -/
def sp_fl (own : String) (ix ci k : Nat) : Prop := ∃ (C : String) (T : u_T) (N : Nat), sp_cl[ci]? = some (C, T, N) ∧ k < N ∧ Cond.fieldLink own ix (T k).1 (T k).2.1 (T k).2.2.1 ∈ sp_T
def sp_fn (own : String) (ix ci k : Nat) : Prop := ∃ (C : String) (T : u_T) (N : Nat) (host : String), sp_cl[ci]? = some (C, T, N) ∧ k < N ∧ Cond.fieldLinkNest own ix (T k).1 (T k).2.1 (T k).2.2.1 host ∈ lw_tbl
def sp_fi (ci k : Nat) (b : Bool) : Prop := ∃ (C : String) (T : u_T) (N : Nat), sp_cl[ci]? = some (C, T, N) ∧ k < N ∧ (T k).2.2.2 = false ∧ (T k).2.2.1 = (if b then "Z" else "I")
theorem aw_getI {o k ix ci : Nat} {kz : Int} {fl : List (Option Nat)} (hd : decode M.2.1 pc = .ok (.getfield ix, 3)) (hf : sp_fl M.1.cls ix ci k) (hs : sp_sh[o]? = some (.inl (ci, fl))) (hkk : fl[k]? = some (none)) (hkz : (k : Int) = kz) (kk : sp_AW M d (pc + 3) L (v_i (g o kz) :: st) g Q) : sp_AW M d pc L (v_r o :: st) g Q := by
  intro l D cA ad p e s m args below meth c C H locs ls hP hD hS hl
  subst hkz
  obtain ⟨Cn, T, N, hc, hk, hw⟩ := hf
  have K := kk l D cA ad p e s m args below meth c C H locs ls hP hD hS hl
  refine va_get (D := D) (C := Cn) (T := T) (N := N) (ci := ci) C.1 C.2.1 C.2.2.2.2.2.2.1 (fun w h => List.mem_cons_of_mem _ (sp_inX hc w h)) C.2.2.2.2.2.1 C.2.2.2.2.2.2.2.1 hP o (sp_Wg g hs) hc k hk (C.2.2.2.2.2.2.1 _ (List.mem_cons_of_mem _ hw)) (fun _ h9 => h9) (v := sp_fv ad g o k (none)) ?_ hd ?_
  · simp [List.getElem?_mapIdx, ‹fl[k]? = _›]
  · exact K
theorem aw_getR {o k ix ci r : Nat} {fl : List (Option Nat)} (hd : decode M.2.1 pc = .ok (.getfield ix, 3)) (hf : sp_fl M.1.cls ix ci k) (hs : sp_sh[o]? = some (.inl (ci, fl))) (hkk : fl[k]? = some (some r)) (kk : sp_AW M d (pc + 3) L (v_r r :: st) g Q) : sp_AW M d pc L (v_r o :: st) g Q := by
  intro l D cA ad p e s m args below meth c C H locs ls hP hD hS hl
  obtain ⟨Cn, T, N, hc, hk, hw⟩ := hf
  have K := kk l D cA ad p e s m args below meth c C H locs ls hP hD hS hl
  refine va_get (D := D) (C := Cn) (T := T) (N := N) (ci := ci) C.1 C.2.1 C.2.2.2.2.2.2.1 (fun w h => List.mem_cons_of_mem _ (sp_inX hc w h)) C.2.2.2.2.2.1 C.2.2.2.2.2.2.2.1 hP o (sp_Wg g hs) hc k hk (C.2.2.2.2.2.2.1 _ (List.mem_cons_of_mem _ hw)) (fun _ h9 => h9) (v := sp_fv ad g o k (some r)) ?_ hd ?_
  · simp [List.getElem?_mapIdx, ‹fl[k]? = _›]
  · exact K
theorem aw_putI {o k ix ci : Nat} {fl : List (Option Nat)} {x kz : Int} (hd : decode M.2.1 pc = .ok (.putfield ix, 3)) (hf : sp_fl M.1.cls ix ci k) (hi : sp_fi ci k false) (hs : sp_sh[o]? = some (.inl (ci, fl))) (hkk : fl[k]? = some none) (hkz : (k : Int) = kz) (kk : sp_AW M d (pc + 3) L st (sp_up g o kz x) Q) : sp_AW M d pc L (v_i x :: v_r o :: st) g Q := by
  intro l D cA ad p e s m args below meth c C H locs ls hP hD hS hl
  subst hkz
  obtain ⟨Cn, T, N, hc, hk, hw⟩ := hf
  obtain ⟨C2, T2, N2, hc2, -, hfin, hde⟩ := hi
  rw [hc] at hc2
  cases hc2
  obtain ⟨ty0, hty⟩ := sp_tyX hc
  have hde2 : parseFieldDescriptor (T k).2.2.1 = some .int := by rw [hde]; decide +kernel
  refine va_put (D := D) (C := Cn) (T := T) (N := N) (ci := ci) (ty := .int) (v := .int (Int32.ofInt x)) C.1 C.2.1 C.2.2.2.2.2.2.1 (fun w h => List.mem_cons_of_mem _ (sp_inX hc w h)) ty0 hty (sp_nmX hc) C.2.2.2.2.2.1 C.2.2.2.2.2.2.2.1 hP hD hS o (sp_Wg g hs) hc k hk (C.2.2.2.2.2.2.1 _ (List.mem_cons_of_mem _ hw)) (fun _ h9 => h9) hfin hde2 rfl rfl ?_ hd ?_
  · have := (List.getElem?_eq_some_iff.mp hkk).1
    simpa using this
  · intro H1 locs1 hP1 hD1 hS1
    rw [sp_WsetF hs hkk] at hP1 hD1
    exact kk l D cA ad p e s m args below meth c C H1 locs1 ls hP1 hD1 hS1 hl
theorem aw_putZ {o k ix ci : Nat} {fl : List (Option Nat)} {x kz : Int} (hd : decode M.2.1 pc = .ok (.putfield ix, 3)) (hf : sp_fl M.1.cls ix ci k) (hi : sp_fi ci k true) (hs : sp_sh[o]? = some (.inl (ci, fl))) (hkk : fl[k]? = some none) (hkz : (k : Int) = kz) (hb : x = 0 ∨ x = 1) (kk : sp_AW M d (pc + 3) L st (sp_up g o kz x) Q) : sp_AW M d pc L (v_i x :: v_r o :: st) g Q := by
  intro l D cA ad p e s m args below meth c C H locs ls hP hD hS hl
  subst hkz
  obtain ⟨Cn, T, N, hc, hk, hw⟩ := hf
  obtain ⟨C2, T2, N2, hc2, -, hfin, hde⟩ := hi
  rw [hc] at hc2
  cases hc2
  obtain ⟨ty0, hty⟩ := sp_tyX hc
  have hde2 : parseFieldDescriptor (T k).2.2.1 = some .boolean := by rw [hde]; decide +kernel
  refine va_put (D := D) (C := Cn) (T := T) (N := N) (ci := ci) (ty := .boolean) (v := .int (Int32.ofInt x)) C.1 C.2.1 C.2.2.2.2.2.2.1 (fun w h => List.mem_cons_of_mem _ (sp_inX hc w h)) ty0 hty (sp_nmX hc) C.2.2.2.2.2.1 C.2.2.2.2.2.2.2.1 hP hD hS o (sp_Wg g hs) hc k hk (C.2.2.2.2.2.2.1 _ (List.mem_cons_of_mem _ hw)) (fun _ h9 => h9) hfin hde2 (by rcases hb with rfl | rfl <;> rfl) (by rcases hb with rfl | rfl <;> rfl) ?_ hd ?_
  · have := (List.getElem?_eq_some_iff.mp hkk).1
    simpa using this
  · intro H1 locs1 hP1 hD1 hS1
    rw [sp_WsetF hs hkk] at hP1 hD1
    exact kk l D cA ad p e s m args below meth c C H1 locs1 ls hP1 hD1 hS1 hl
theorem aw_getIn {o k ix ci : Nat} {kz : Int} {fl : List (Option Nat)} (hd : decode M.2.1 pc = .ok (.getfield ix, 3)) (hf : sp_fn M.1.cls ix ci k) (hs : sp_sh[o]? = some (.inl (ci, fl))) (hkk : fl[k]? = some (none)) (hkz : (k : Int) = kz) (kk : sp_AW M d (pc + 3) L (v_i (g o kz) :: st) g Q) : sp_AW M d pc L (v_r o :: st) g Q := by
  intro l D cA ad p e s m args below meth c C H locs ls hP hD hS hl
  subst hkz
  obtain ⟨Cn, T, N, host, hc, hk, hw⟩ := hf
  have K := kk l D cA ad p e s m args below meth c C H locs ls hP hD hS hl
  refine va_getN (D := D) (C := Cn) (T := T) (N := N) (ci := ci) C.1 C.2.1 C.2.2.2.2.2.2.1 (fun w h => List.mem_cons_of_mem _ (sp_inX hc w h)) C.2.2.2.2.2.1 C.2.2.2.2.2.2.2.1 hP o (sp_Wg g hs) hc k hk (va_Nw.use rfl (C.2.2.2.2.2.2.2.2.1 _ hw rfl)) (fun _ h9 => h9) (v := sp_fv ad g o k (none)) ?_ hd ?_
  · simp [List.getElem?_mapIdx, ‹fl[k]? = _›]
  · exact K
theorem aw_getRn {o k ix ci r : Nat} {fl : List (Option Nat)} (hd : decode M.2.1 pc = .ok (.getfield ix, 3)) (hf : sp_fn M.1.cls ix ci k) (hs : sp_sh[o]? = some (.inl (ci, fl))) (hkk : fl[k]? = some (some r)) (kk : sp_AW M d (pc + 3) L (v_r r :: st) g Q) : sp_AW M d pc L (v_r o :: st) g Q := by
  intro l D cA ad p e s m args below meth c C H locs ls hP hD hS hl
  obtain ⟨Cn, T, N, host, hc, hk, hw⟩ := hf
  have K := kk l D cA ad p e s m args below meth c C H locs ls hP hD hS hl
  refine va_getN (D := D) (C := Cn) (T := T) (N := N) (ci := ci) C.1 C.2.1 C.2.2.2.2.2.2.1 (fun w h => List.mem_cons_of_mem _ (sp_inX hc w h)) C.2.2.2.2.2.1 C.2.2.2.2.2.2.2.1 hP o (sp_Wg g hs) hc k hk (va_Nw.use rfl (C.2.2.2.2.2.2.2.2.1 _ hw rfl)) (fun _ h9 => h9) (v := sp_fv ad g o k (some r)) ?_ hd ?_
  · simp [List.getElem?_mapIdx, ‹fl[k]? = _›]
  · exact K
theorem aw_putIn {o k ix ci : Nat} {fl : List (Option Nat)} {x kz : Int} (hd : decode M.2.1 pc = .ok (.putfield ix, 3)) (hf : sp_fn M.1.cls ix ci k) (hi : sp_fi ci k false) (hs : sp_sh[o]? = some (.inl (ci, fl))) (hkk : fl[k]? = some none) (hkz : (k : Int) = kz) (kk : sp_AW M d (pc + 3) L st (sp_up g o kz x) Q) : sp_AW M d pc L (v_i x :: v_r o :: st) g Q := by
  intro l D cA ad p e s m args below meth c C H locs ls hP hD hS hl
  subst hkz
  obtain ⟨Cn, T, N, host, hc, hk, hw⟩ := hf
  obtain ⟨C2, T2, N2, hc2, -, hfin, hde⟩ := hi
  rw [hc] at hc2
  cases hc2
  obtain ⟨ty0, hty⟩ := sp_tyX hc
  have hde2 : parseFieldDescriptor (T k).2.2.1 = some .int := by rw [hde]; decide +kernel
  refine va_putN (D := D) (C := Cn) (T := T) (N := N) (ci := ci) (ty := .int) (v := .int (Int32.ofInt x)) C.1 C.2.1 C.2.2.2.2.2.2.1 (fun w h => List.mem_cons_of_mem _ (sp_inX hc w h)) ty0 hty (sp_nmX hc) C.2.2.2.2.2.1 C.2.2.2.2.2.2.2.1 hP hD hS o (sp_Wg g hs) hc k hk (va_Nw.use rfl (C.2.2.2.2.2.2.2.2.1 _ hw rfl)) (fun _ h9 => h9) hfin hde2 rfl rfl ?_ hd ?_
  · have := (List.getElem?_eq_some_iff.mp hkk).1
    simpa using this
  · intro H1 locs1 hP1 hD1 hS1
    rw [sp_WsetF hs hkk] at hP1 hD1
    exact kk l D cA ad p e s m args below meth c C H1 locs1 ls hP1 hD1 hS1 hl
theorem aw_putZn {o k ix ci : Nat} {fl : List (Option Nat)} {x kz : Int} (hd : decode M.2.1 pc = .ok (.putfield ix, 3)) (hf : sp_fn M.1.cls ix ci k) (hi : sp_fi ci k true) (hs : sp_sh[o]? = some (.inl (ci, fl))) (hkk : fl[k]? = some none) (hkz : (k : Int) = kz) (hb : x = 0 ∨ x = 1) (kk : sp_AW M d (pc + 3) L st (sp_up g o kz x) Q) : sp_AW M d pc L (v_i x :: v_r o :: st) g Q := by
  intro l D cA ad p e s m args below meth c C H locs ls hP hD hS hl
  subst hkz
  obtain ⟨Cn, T, N, host, hc, hk, hw⟩ := hf
  obtain ⟨C2, T2, N2, hc2, -, hfin, hde⟩ := hi
  rw [hc] at hc2
  cases hc2
  obtain ⟨ty0, hty⟩ := sp_tyX hc
  have hde2 : parseFieldDescriptor (T k).2.2.1 = some .boolean := by rw [hde]; decide +kernel
  refine va_putN (D := D) (C := Cn) (T := T) (N := N) (ci := ci) (ty := .boolean) (v := .int (Int32.ofInt x)) C.1 C.2.1 C.2.2.2.2.2.2.1 (fun w h => List.mem_cons_of_mem _ (sp_inX hc w h)) ty0 hty (sp_nmX hc) C.2.2.2.2.2.1 C.2.2.2.2.2.2.2.1 hP hD hS o (sp_Wg g hs) hc k hk (va_Nw.use rfl (C.2.2.2.2.2.2.2.2.1 _ hw rfl)) (fun _ h9 => h9) hfin hde2 (by rcases hb with rfl | rfl <;> rfl) (by rcases hb with rfl | rfl <;> rfl) ?_ hd ?_
  · have := (List.getElem?_eq_some_iff.mp hkk).1
    simpa using this
  · intro H1 locs1 hP1 hD1 hS1
    rw [sp_WsetF hs hkk] at hP1 hD1
    exact kk l D cA ad p e s m args below meth c C H1 locs1 ls hP1 hD1 hS1 hl
theorem sp_nlt {o : Nat} {s : sp_S} (h : sp_sh[o]? = some s) : ∀ k n f, s = .inr (k, n, f) → n < 2147483648 := by
  have hall : ∀ t ∈ sp_sh, ∀ k n f, t = .inr (k, n, f) → n < 2147483648 := by
    have : sp_sh.all (fun t => match t with | .inr (_, n, _) => decide (n < 2147483648) | _ => true) = true := by decide +kernel
    intro t ht k n f e
    have h1 := List.all_eq_true.mp this t ht
    subst e
    simpa using h1
  exact hall s (List.mem_of_getElem? h)
theorem aw_iald {o n : Nat} {i : Int} (hd : decode M.2.1 pc = .ok (.iaload, 1)) (hs : sp_sh[o]? = some (.inr (0, n, none))) (hi : 0 ≤ i ∧ i < n) (k : sp_AW M d (pc + 1) L (v_i (g o i) :: st) g Q) : sp_AW M d pc L (v_i i :: v_r o :: st) g Q := by
  intro l D cA ad p e s m args below meth c C H locs ls hP hD hS hl
  have K := k l D cA ad p e s m args below meth c C H locs ls hP hD hS hl
  have hn := sp_nlt hs _ _ _ rfl
  refine va_iald (D := D) C.1 C.2.1 C.2.2.2.2.2.2.2.1 hP o 0 (sp_Wg g hs) rfl (sp_in0 hi hn) hd ?_
  rw [sp_cl0 hi hn, Int.toNat_of_nonneg hi.1]
  exact K
theorem aw_bald {o n : Nat} {i : Int} (hd : decode M.2.1 pc = .ok (.baload, 1)) (hs : sp_sh[o]? = some (.inr (1, n, none))) (hi : 0 ≤ i ∧ i < n) (k : sp_AW M d (pc + 1) L (v_i (g o i) :: st) g Q) : sp_AW M d pc L (v_i i :: v_r o :: st) g Q := by
  intro l D cA ad p e s m args below meth c C H locs ls hP hD hS hl
  have K := k l D cA ad p e s m args below meth c C H locs ls hP hD hS hl
  have hn := sp_nlt hs _ _ _ rfl
  refine va_bald (D := D) C.1 C.2.1 C.2.2.2.2.2.2.2.1 hP o 1 (sp_Wg g hs) rfl (sp_in0 hi hn) hd ?_
  rw [sp_cl0 hi hn, Int.toNat_of_nonneg hi.1]
  exact K
theorem aw_zald {o n : Nat} {i : Int} (hd : decode M.2.1 pc = .ok (.baload, 1)) (hs : sp_sh[o]? = some (.inr (2, n, none))) (hi : 0 ≤ i ∧ i < n) (k : sp_AW M d (pc + 1) L (v_i (g o i) :: st) g Q) : sp_AW M d pc L (v_i i :: v_r o :: st) g Q := by
  intro l D cA ad p e s m args below meth c C H locs ls hP hD hS hl
  have K := k l D cA ad p e s m args below meth c C H locs ls hP hD hS hl
  have hn := sp_nlt hs _ _ _ rfl
  refine va_zald (D := D) C.1 C.2.1 C.2.2.2.2.2.2.2.1 hP o 2 (sp_Wg g hs) rfl (sp_in0 hi hn) hd ?_
  rw [sp_cl0 hi hn, Int.toNat_of_nonneg hi.1]
  exact K
theorem aw_cald {o n : Nat} {i : Int} (hd : decode M.2.1 pc = .ok (.caload, 1)) (hs : sp_sh[o]? = some (.inr (3, n, none))) (hi : 0 ≤ i ∧ i < n) (k : sp_AW M d (pc + 1) L (v_i (g o i) :: st) g Q) : sp_AW M d pc L (v_i i :: v_r o :: st) g Q := by
  intro l D cA ad p e s m args below meth c C H locs ls hP hD hS hl
  have K := k l D cA ad p e s m args below meth c C H locs ls hP hD hS hl
  have hn := sp_nlt hs _ _ _ rfl
  refine va_cald (D := D) C.1 C.2.1 C.2.2.2.2.2.2.2.1 hP o 3 (sp_Wg g hs) rfl (sp_in0 hi hn) hd ?_
  rw [sp_cl0 hi hn, Int.toNat_of_nonneg hi.1]
  exact K
theorem aw_iast {o n : Nat} {i x : Int} (hd : decode M.2.1 pc = .ok (.iastore, 1)) (hs : sp_sh[o]? = some (.inr (0, n, none))) (hi : 0 ≤ i ∧ i < n) (k : sp_AW M d (pc + 1) L st (sp_up g o i x) Q) : sp_AW M d pc L (v_i x :: v_i i :: v_r o :: st) g Q := by
  intro l D cA ad p e s m args below meth c C H locs ls hP hD hS hl
  have hn := sp_nlt hs _ _ _ rfl
  refine va_iast (D := D) C.1 C.2.1 C.2.2.2.2.2.2.2.1 hP hD hS o 0 (sp_Wg g hs) rfl (sp_in0 hi hn) hd ?_
  intro H1 locs1 hP1 hD1 hS1
  {
    rw [sp_cl0 hi hn] at hP1 hD1
    rw [sp_WsetA hs hi.1] at hP1 hD1
    exact k l D cA ad p e s m args below meth c C H1 locs1 ls hP1 hD1 hS1 hl }
theorem aw_bast {o n : Nat} {i x : Int} (hd : decode M.2.1 pc = .ok (.bastore, 1)) (hs : sp_sh[o]? = some (.inr (1, n, none))) (hi : 0 ≤ i ∧ i < n) (hb : -128 ≤ x ∧ x < 128) (k : sp_AW M d (pc + 1) L st (sp_up g o i x) Q) : sp_AW M d pc L (v_i x :: v_i i :: v_r o :: st) g Q := by
  intro l D cA ad p e s m args below meth c C H locs ls hP hD hS hl
  have hn := sp_nlt hs _ _ _ rfl
  refine va_bast (D := D) C.1 C.2.1 C.2.2.2.2.2.2.2.1 hP hD hS o 1 (sp_Wg g hs) rfl (sp_in0 hi hn) hd ?_
  intro H1 locs1 hP1 hD1 hS1
  {
    rw [sp_cl0 hi hn] at hP1 hD1
    rw [show vp_nar .byte (Int32.ofInt x) = Int32.ofInt x from by rw [vp_nar_byte]; exact sp_b hb] at hP1 hD1
    rw [sp_WsetA hs hi.1] at hP1 hD1
    exact k l D cA ad p e s m args below meth c C H1 locs1 ls hP1 hD1 hS1 hl }
theorem aw_zast {o n : Nat} {i x : Int} (hd : decode M.2.1 pc = .ok (.bastore, 1)) (hs : sp_sh[o]? = some (.inr (2, n, none))) (hi : 0 ≤ i ∧ i < n) (hb : x = 0 ∨ x = 1) (k : sp_AW M d (pc + 1) L st (sp_up g o i x) Q) : sp_AW M d pc L (v_i x :: v_i i :: v_r o :: st) g Q := by
  intro l D cA ad p e s m args below meth c C H locs ls hP hD hS hl
  have hn := sp_nlt hs _ _ _ rfl
  refine va_zast (D := D) C.1 C.2.1 C.2.2.2.2.2.2.2.1 hP hD hS o 2 (sp_Wg g hs) rfl (sp_in0 hi hn) hd ?_
  intro H1 locs1 hP1 hD1 hS1
  {
    rw [sp_cl0 hi hn] at hP1 hD1
    rw [show vp_nar .boolean (Int32.ofInt x) = Int32.ofInt x from by rcases hb with rfl | rfl <;> rfl] at hP1 hD1
    rw [sp_WsetA hs hi.1] at hP1 hD1
    exact k l D cA ad p e s m args below meth c C H1 locs1 ls hP1 hD1 hS1 hl }
theorem aw_alen {o ki n : Nat} (hd : decode M.2.1 pc = .ok (.arraylength, 1)) (hs : sp_sh[o]? = some (.inr (ki, n, none))) (hki : ki < 5) (k : sp_AW M d (pc + 1) L (v_i n :: st) g Q) : sp_AW M d pc L (v_r o :: st) g Q := by
  intro l D cA ad p e s m args below meth c C H locs ls hP hD hS hl
  have K := k l D cA ad p e s m args below meth c C H locs ls hP hD hS hl
  obtain ⟨ty, hty⟩ : ∃ ty, (sp_ty cA)[ki]? = some (cA ki, ty) := by
    match ki, hki with
    | 0, _ => exact ⟨_, rfl⟩
    | 1, _ => exact ⟨_, rfl⟩
    | 2, _ => exact ⟨_, rfl⟩
    | 3, _ => exact ⟨_, rfl⟩
    | 4, _ => exact ⟨_, rfl⟩
  exact va_alen (D := D) C.1 C.2.1 C.2.2.2.2.2.2.2.1 hP o ki (sp_Wg g hs) hty (v := Int32.ofInt n) rfl hd K
theorem aw_aald {o n : Nat} {f : Nat → Nat} {i : Int} (hd : decode M.2.1 pc = .ok (.aaload, 1)) (hs : sp_sh[o]? = some (.inr (4, n, some f))) (hi : 0 ≤ i ∧ i < n) (k : sp_AW M d (pc + 1) L (v_r (f i.toNat) :: st) g Q) : sp_AW M d pc L (v_i i :: v_r o :: st) g Q := by
  intro l D cA ad p e s m args below meth c C H locs ls hP hD hS hl
  have K := k l D cA ad p e s m args below meth c C H locs ls hP hD hS hl
  have hn := sp_nlt hs _ _ _ rfl
  refine va_aldq (D := D) C.1 C.2.1 C.2.2.2.2.2.2.2.1 hP o 4 (sp_Wg g hs) rfl (sp_in0 hi hn) hd ?_
  rw [sp_cl0 hi hn]
  exact K
theorem aw_gets {k ix : Nat} (hd : decode M.2.1 pc = .ok (.getstatic ix, 3)) (hk : k < 3) (hw : Cond.fieldLink M.1.cls ix RX2 (sp_nm k) "[I" ∈ sp_T) (kk : sp_AW M d (pc + 3) L (v_r (70 + k) :: st) g Q) : sp_AW M d pc L st g Q := by
  intro l D cA ad p e s m args below meth c C H locs ls hP hD hS hl
  exact va_gets C.1 C.2.1 ((C.2.2.2.2.2.2.2.2.2.1 k hk).1) hS C.2.2.2.2.2.1 (C.2.2.2.2.2.2.1 _ (List.mem_cons_of_mem _ hw)) (fun _ h => h) hd (kk l D cA ad p e s m args below meth c C H locs ls hP hD hS hl)
theorem aw_xald {k : Nat} {i : Int} (hd : decode M.2.1 pc = .ok (.iaload, 1)) (hk : k < 3) (hi : 0 ≤ i ∧ i < (sp_num k).length) (kk : sp_AW M d (pc + 1) L (v_i ((sp_num k).getD i.toNat 0) :: st) g Q) : sp_AW M d pc L (v_i i :: v_r (70 + k) :: st) g Q := by
  intro l D cA ad p e s m args below meth c C H locs ls hP hD hS hl
  have hn : (sp_num k).length < 2147483648 := by
    match k, hk with
    | 0, _ => decide
    | 1, _ => decide
    | 2, _ => decide
  refine va_ti C.1 C.2.1 ((C.2.2.2.2.2.2.2.2.2.1 k hk).2) hS (sp_in0 hi hn) (v := .int (Int32.ofInt ((sp_num k).getD i.toNat 0))) (by rw [sp_cl0 hi hn]) hd (kk l D cA ad p e s m args below meth c C H locs ls hP hD hS hl)
theorem aw_ldcS {i : Nat} (hM : M.1.cls = RX2) (hd : decode M.2.1 pc = .ok (.ldc (sp_sx i), 2)) (hi : i < 5) (kk : sp_AW M d (pc + 2) L (v_r (80 + i) :: st) g Q) : sp_AW M d pc L st g Q := by
  intro l D cA ad p e s m args below meth c C H locs ls hP hD hS hl
  exact va_ldcS C.1 C.2.1 (hM ▸ C.2.2.2.2.2.1) (C.2.2.2.2.2.2.2.2.2.2.1 i hi) hd (kk l D cA ad p e s m args below meth c C H locs ls hP hD hS hl)
theorem sp_fin {D : va_G} {cA : Nat → ClassId} {ad : Nat → Nat} {s t : State} {H : Heap} {locs : List Loc} {a : Array Value} {v : Option sp_V} (hP : va_P D sp_cl (sp_W ad cA g) H) (hS : va_S (sp_A ad) s.heap H locs) (hq : Q v g) (ht : t.heap = H) : sp_Q D cA ad Q a s (.returned (v.map (sp_cv ad))) t := ⟨⟨v, g, rfl, hq, by rw [ht]; exact hP⟩, hS.F ht⟩
theorem aw_iret {x : Int} (hd : decode M.2.1 pc = .ok (.ireturn, 1)) (hr : M.2.2.2 = some .int) (hq : Q (some (v_i x)) g) : sp_AW M d pc L [v_i x] g Q := by
  intro l D cA ad p e s m args below meth c C H locs ls hP hD hS hl
  exact W.iret C.1 C.2.1 (C.2.2.2.1.trans hr) (fun t ht _ => sp_fin (v := some (v_i x)) hP hS hq ht) hS.2.2 hd (hlocks := C.2.2.2.2.1)
theorem aw_zret {x : Int} (hd : decode M.2.1 pc = .ok (.ireturn, 1)) (hr : M.2.2.2 = some .boolean) (hb : x = 0 ∨ x = 1) (hq : Q (some (v_i x)) g) : sp_AW M d pc L [v_i x] g Q := by
  intro l D cA ad p e s m args below meth c C H locs ls hP hD hS hl
  exact W.zret C.1 C.2.1 (C.2.2.2.1.trans hr) (by rcases hb with rfl | rfl <;> rfl) (fun t ht _ => sp_fin (v := some (v_i x)) hP hS hq ht) hS.2.2 hd (hlocks := C.2.2.2.2.1)
theorem aw_lret {x : Int} (hd : decode M.2.1 pc = .ok (.lreturn, 1)) (hr : M.2.2.2 = some .long) (hq : Q (some (v_l x)) g) : sp_AW M d pc L [v_l x] g Q := by
  intro l D cA ad p e s m args below meth c C H locs ls hP hD hS hl
  exact W.lret C.1 C.2.1 (C.2.2.2.1.trans hr) (fun t ht _ => sp_fin (v := some (v_l x)) hP hS hq ht) hS.2.2 hd (hlocks := C.2.2.2.2.1)
theorem aw_vret (hd : decode M.2.1 pc = .ok (.return_, 1)) (hr : M.2.2.2 = none) (hq : Q none g) : sp_AW M d pc L [] g Q := by
  intro l D cA ad p e s m args below meth c C H locs ls hP hD hS hl
  exact W.vret C.1 C.2.1 (C.2.2.2.1.trans hr) (fun t ht _ => sp_fin (v := none) hP hS hq ht) hS.2.2 hd (hlocks := C.2.2.2.2.1)
theorem aw_aret {x : Nat} {cn : String} (hd : decode M.2.1 pc = .ok (.areturn, 1)) (hr : M.2.2.2 = some (.object cn)) (hq : Q (some (v_r x)) g) : sp_AW M d pc L [v_r x] g Q := by
  intro l D cA ad p e s m args below meth c C H locs ls hP hD hS hl
  exact W.aret C.1 C.2.1 (C.2.2.2.1.trans hr) (Or.inl ⟨_, rfl⟩) (Or.inr ⟨_, rfl⟩) (fun t ht _ => sp_fin (v := some (v_r x)) hP hS hq ht) hS.2.2 hd (hlocks := C.2.2.2.2.1)
/-- what a method is, by the tables -/
def sp_okS (M : sp_M) (n : Nat) : Prop := Cond.code M.1 M.2.1 M.2.2.1 M.2.2.2 ∈ sp_T ∧ Cond.initialized M.1.cls ∈ sp_T ∧ Cond.static M.1 ∈ sp_T ∧ (M.1.cls ≠ "java/lang/invoke/MethodHandle" ∧ M.1.cls ≠ "java/lang/invoke/VarHandle") ∧ (parseMethodDescriptor M.1.desc).map (fun q => q.parameters.length) = some n ∧ M.2.2.1 ≤ 19
def sp_okV (M : sp_M) (n : Nat) : Prop := Cond.code M.1 M.2.1 M.2.2.1 M.2.2.2 ∈ sp_T ∧ Cond.initialized M.1.cls ∈ sp_T ∧ (Cond.instanceMethod M.1 ∈ sp_T ∧ Cond.selects M.1.cls M.1 M.1 ∈ sp_T) ∧ (M.1.cls ≠ "java/lang/invoke/MethodHandle" ∧ M.1.cls ≠ "java/lang/invoke/VarHandle") ∧ (parseMethodDescriptor M.1.desc).map (fun q => q.parameters.length) = some n ∧ M.2.2.1 ≤ 19
theorem sp_good {M M2 : sp_M} (h : Cond.code M2.1 M2.2.1 M2.2.2.1 M2.2.2.2 ∈ sp_T) : GoodIn (sp_ws M) (sp_ws M2) := by
  intro w hw
  have h1 : w ∈ sp_T := by
    rcases List.mem_cons.mp hw with e | e
    · rw [e]; exact h
    · exact e
  exact ⟨List.mem_cons_of_mem _ h1, good_of_word (List.mem_filter.mp h1).2⟩
theorem sp_blind {D : va_G} {cA : Nat → ClassId} {ad : Nat → Nat} {as : List sp_V} : FrameBlind (va_Pc (as.map (sp_cv ad)) (sp_Wd D cA ad g)) := by
  intro a U gg mk q
  obtain ⟨q0, qP, qK, qD, qN, qE⟩ := q
  exact ⟨q0, qP, va_K.moved (u := U) (U := U.calling gg mk a) (Vm.Alike.refl U.vm) qK, qD, sp_Nst.same (s := U) (U := U.calling gg mk a) rfl qN, sp_Ext.same (s := U) (U := U.calling gg mk a) rfl rfl qE⟩
theorem sp_pre {D : va_G} {cA : Nat → ClassId} {ad : Nat → Nat} {p : Program} {l : Launch} {s U : State} {m : MethodId} {args : Array Value} {meth : Method} {c : Code} {H : Heap} {locs : List Loc} (C : sp_Cx l D cA ad M p s m args meth c) (hP : va_P D sp_cl (sp_W ad cA g) H) (hD : va_D (sp_A ad) (sp_W ad cA g)) (hS : va_S (sp_A ad) s.heap H locs) (hU : U.heap = H) (hW : s.WarmedH U.vm) : sp_Wd D cA ad g U :=
  ⟨by rw [hU]; exact hP, va_K.moved hW.alike C.2.2.2.2.2.2.2.1, hD, sp_Nst.warm hW C.2.2.2.2.2.2.2.2.1, sp_Ext.mv hW (fun a h1 h2 => by rw [hU]; exact hS.2.1 a h1 h2) C.2.2.2.2.2.2.2.2.2⟩
/-- behind a call -/
theorem sp_back {D : va_G} {cA : Nat → ClassId} {ad : Nat → Nat} {p : Program} {l : Launch} {e : Env} {s : State} {m : MethodId} {args : Array Value} {below : List Frame} {meth : Method} {c : Code} {H : Heap} {locs : List Loc} {ls : Array Slot} {stv : List Value} {a : Array Value} (C : sp_Cx l D cA ad M p s m args meth c) (hD : va_D (sp_A ad) (sp_W ad cA g)) (hS : va_S (sp_A ad) s.heap H locs) (hl : lv_has ls M.2.2.1 (sp_lv ad 0 L))
    (hr : va_Run p l e (sp_rm d) s m args below meth c H locs 0 0 0 0 (F0 m pc ls stv) (st.map (sp_cv ad)) (sp_Q D cA ad (fun v g2 => sp_AW M d (pc + 3) L (sp_psh v st) g2 Q) a) (sp_A ad)) : W p l e (sp_rm d) s m args below meth c H locs 0 0 (MQ below (sp_Q D cA ad Q) args s 0 0 (sp_A ad)) (F0 m pc ls stv) := by
  intro T hT X
  obtain ⟨v, st₀, t, T', L2, h0, X', hL, e1, e2, ⟨⟨v2, g2, hv, hk, hP2⟩, hz, hkk⟩, sg⟩ := hr T hT X
  cases hv
  rw [h0] at hz hkk
  have hS2 : va_S (sp_A ad) s.heap T'.heap (locs ++ L2) := by
    refine ⟨Nat.le_trans hS.1 (by rw [e1]; exact hz), fun q h1 h2 => ?_, fun q hq => ?_⟩
    · rw [e1, hkk q (Nat.lt_of_lt_of_le h1 hS.1) h2]
      exact hS.2.1 q h1 h2
    · rcases List.mem_append.mp hq with h | h
      · exact hS.2.2 q h
      · exact hL q h
  obtain ⟨t2, a1, b1⟩ := hk l D cA ad p e s m args below meth c C T'.heap (locs ++ L2) ls (by rw [e1]; exact hP2) (sp_D g2 hD) hS2 hl T' rfl X'
  refine ⟨t2, sg t2 ?_, b1⟩
  cases v2 with
  | none => exact a1
  | some v3 => exact a1
theorem sp_room {d n : Nat} (h : n ≤ 19) : (sp_rm d).frames + 1 ≤ (sp_rm (d + 1)).frames ∧ 8 + (n + 11) + (sp_rm d).locals ≤ (sp_rm (d + 1)).locals := by
  simp only [sp_rm]
  omega
theorem sp_cat {ad : Nat → Nat} : ∀ {st : List sp_V}, (st.map (fun v => if sp_c1 v = true then 1 else 2)).sum ≤ 8 → ((st.map (sp_cv ad)).map fun v => v.category).sum ≤ 8 := by
  intro st h
  have e : ((st.map (sp_cv ad)).map fun v => v.category) = st.map (fun v => if sp_c1 v = true then 1 else 2) := by
    rw [List.map_map]
    apply List.map_congr_left
    intro v _
    match v with
    | .inl x => rfl
    | .inr (.inl x) => rfl
    | .inr (.inr k) => rfl
  rw [e]
  exact h
theorem aw_callS {M2 : sp_M} {as stk : List sp_V} {n ix : Nat} (hd : decode M.2.1 pc = .ok (.invokestatic ix, 3)) (ho : sp_okS M2 n) (hw : Cond.methodLink M.1.cls ix M2.1 ∈ sp_T) (hn : as.length = n) (hstk : stk = as.reverse ++ st) (hc : (st.map (fun v => if sp_c1 v = true then 1 else 2)).sum ≤ 8)
    (k : sp_Met d M2 as g (fun v g2 => sp_AW M (d + 1) (pc + 3) L (sp_psh v st) g2 Q)) : sp_AW M (d + 1) pc L stk g Q := by
  intro l D cA ad p e s m args below meth c C H locs ls hP hD hS hl
  subst hstk
  obtain ⟨o1, o2, o3, o4, o5, o6⟩ := ho
  have hts := C.2.2.2.2.2.2.1
  have cb := callB_of (R := sp_rm (d + 1)) (rm := sp_rm d) (mc := 0) (ms := 0) n hts (sp_good o1) rfl rfl rfl (hts _ (List.mem_cons_of_mem _ o2)) (hts _ (List.mem_cons_of_mem _ hw)) ⟨o4.1, o4.2, o5⟩ (sp_room o6)
  refine sp_back C hD hS hl (va_runS (As := as.map (sp_cv ad)) ⟨C.1, C.2.1, C.2.2.1, C.2.2.2.2.2.1, hts⟩ (k l D cA ad) ⟨cb, hts _ (List.mem_cons_of_mem _ o3)⟩ ⟨sp_blind, fun U hU hW => ⟨rfl, sp_pre C hP hD hS hU hW⟩⟩ rfl (by rw [List.length_map]; exact hn) hl.1 (by simp [List.map_append, List.map_reverse]) (lv_room (sp_cat hc)) hd ⟨Nat.le_refl _, Nat.le_refl _⟩)
theorem aw_callSn {M2 : sp_M} {as stk : List sp_V} {n ix : Nat} {host : String} (hd : decode M.2.1 pc = .ok (.invokestatic ix, 3)) (ho : sp_okS M2 n) (hw : Cond.methodLinkNest M.1.cls ix M2.1 host ∈ lw_tbl) (hn : as.length = n) (hstk : stk = as.reverse ++ st) (hc : (st.map (fun v => if sp_c1 v = true then 1 else 2)).sum ≤ 8)
    (k : sp_Met d M2 as g (fun v g2 => sp_AW M (d + 1) (pc + 3) L (sp_psh v st) g2 Q)) : sp_AW M (d + 1) pc L stk g Q := by
  intro l D cA ad p e s m args below meth c C H locs ls hP hD hS hl
  subst hstk
  obtain ⟨o1, o2, o3, o4, o5, o6⟩ := ho
  have hts := C.2.2.2.2.2.2.1
  have cb := va_cnB (R := sp_rm (d + 1)) (rm := sp_rm d) (mc := 0) (ms := 0) n hts (sp_good o1) rfl rfl rfl (C.2.2.2.2.2.2.2.2.1 _ hw rfl) (hts _ (List.mem_cons_of_mem _ o2)) ⟨o4.1, o4.2, o5⟩ (sp_room o6)
  refine sp_back C hD hS hl (va_runSN (As := as.map (sp_cv ad)) ⟨C.1, C.2.1, C.2.2.1, C.2.2.2.2.2.1, hts⟩ (k l D cA ad) ⟨cb, hts _ (List.mem_cons_of_mem _ o3), trivial⟩ ⟨sp_blind, fun U hU hW => ⟨rfl, sp_pre C hP hD hS hU hW⟩⟩ rfl (by rw [List.length_map]; exact hn) hl.1 (by simp [List.map_append, List.map_reverse]) (lv_room (sp_cat hc)) hd ⟨Nat.le_refl _, Nat.le_refl _⟩)
theorem aw_callV {M2 : sp_M} {o : Nat} {as stk : List sp_V} {n ix ci N : Nat} {T : u_T} {fl : List (Option Nat)} (hd : decode M.2.1 pc = .ok (.invokevirtual ix, 3)) (ho : sp_okV M2 n) (hw : Cond.methodLink M.1.cls ix M2.1 ∈ sp_T) (hs : sp_sh[o]? = some (.inl (ci, fl))) (hci : sp_cl[ci]? = some (M2.1.cls, T, N)) (hn : as.length = n) (hstk : stk = as.reverse ++ v_r o :: st) (hc : (st.map (fun v => if sp_c1 v = true then 1 else 2)).sum ≤ 8)
    (k : sp_Met d M2 (v_r o :: as) g (fun v g2 => sp_AW M (d + 1) (pc + 3) L (sp_psh v st) g2 Q)) : sp_AW M (d + 1) pc L stk g Q := by
  intro l D cA ad p e s m args below meth c C H locs ls hP hD hS hl
  subst hstk
  obtain ⟨o1, o2, o3, o4, o5, o6⟩ := ho
  have hts := C.2.2.2.2.2.2.1
  have cb := callB_of (R := sp_rm (d + 1)) (rm := sp_rm d) (mc := 0) (ms := 0) n hts (sp_good o1) rfl rfl rfl (hts _ (List.mem_cons_of_mem _ o2)) (hts _ (List.mem_cons_of_mem _ hw)) ⟨o4.1, o4.2, o5⟩ (sp_room o6)
  have hrec := va_recv (D := D) (cl := sp_cl) C.2.2.2.2.2.2.2.1 hP (ci := ci) (q0 := o) (a := ad o) (q := (M2.1.cls, T, N)) (fs := fl.mapIdx (sp_fv ad g o)) hci (sp_Wg g hs)
  refine sp_back C hD hS hl (va_runV (C := M2.1.cls) (b := ad o) (As := as.map (sp_cv ad)) ⟨C.1, C.2.1, C.2.2.1, C.2.2.2.2.2.1, hts⟩ (k l D cA ad) ⟨cb, hts _ (List.mem_cons_of_mem _ o3.1), hts _ (List.mem_cons_of_mem _ o3.2)⟩ ⟨sp_blind, hrec, fun U hU hW => ⟨rfl, sp_pre C hP hD hS hU hW⟩⟩ rfl (by rw [List.length_map]; exact hn) hl.1 (by simp [List.map_append, List.map_reverse, sp_cv]) (lv_room (sp_cat hc)) hd ⟨Nat.le_refl _, Nat.le_refl _⟩)
end RULES
end
section
abbrev mX5_init : sp_M := (yX5_init, cX5_init, 1, none)
abbrev mX5_on : sp_M := (yX5_on, cX5_on, 3, some .int)
theorem okX5_on : sp_okV mX5_on 2 := ⟨sp_inT (List.mem_of_getElem? (i := 258) (by decide +kernel)) (by decide +kernel), sp_inT (List.mem_of_getElem? (i := 60) (by decide +kernel)) (by decide +kernel), ⟨sp_inT (List.mem_of_getElem? (i := 256) (by decide +kernel)) (by decide +kernel), sp_inT (List.mem_of_getElem? (i := 257) (by decide +kernel)) (by decide +kernel)⟩, ⟨by decide +kernel, by decide +kernel⟩, by decide +kernel, by decide⟩
abbrev mX5_puts : sp_M := (yX5_puts, cX5_puts, 5, some .int)
theorem okX5_puts : sp_okV mX5_puts 4 := ⟨sp_inT (List.mem_of_getElem? (i := 290) (by decide +kernel)) (by decide +kernel), sp_inT (List.mem_of_getElem? (i := 60) (by decide +kernel)) (by decide +kernel), ⟨sp_inT (List.mem_of_getElem? (i := 288) (by decide +kernel)) (by decide +kernel), sp_inT (List.mem_of_getElem? (i := 289) (by decide +kernel)) (by decide +kernel)⟩, ⟨by decide +kernel, by decide +kernel⟩, by decide +kernel, by decide⟩
abbrev mX5_names : sp_M := (yX5_names, cX5_names, 4, some .int)
theorem okX5_names : sp_okV mX5_names 3 := ⟨sp_inT (List.mem_of_getElem? (i := 311) (by decide +kernel)) (by decide +kernel), sp_inT (List.mem_of_getElem? (i := 60) (by decide +kernel)) (by decide +kernel), ⟨sp_inT (List.mem_of_getElem? (i := 309) (by decide +kernel)) (by decide +kernel), sp_inT (List.mem_of_getElem? (i := 310) (by decide +kernel)) (by decide +kernel)⟩, ⟨by decide +kernel, by decide +kernel⟩, by decide +kernel, by decide⟩
abbrev mX5_voters : sp_M := (yX5_voters, cX5_voters, 3, some .int)
theorem okX5_voters : sp_okV mX5_voters 2 := ⟨sp_inT (List.mem_of_getElem? (i := 319) (by decide +kernel)) (by decide +kernel), sp_inT (List.mem_of_getElem? (i := 60) (by decide +kernel)) (by decide +kernel), ⟨sp_inT (List.mem_of_getElem? (i := 317) (by decide +kernel)) (by decide +kernel), sp_inT (List.mem_of_getElem? (i := 318) (by decide +kernel)) (by decide +kernel)⟩, ⟨by decide +kernel, by decide +kernel⟩, by decide +kernel, by decide⟩
abbrev mX5_draw : sp_M := (yX5_draw, cX5_draw, 4, some .int)
theorem okX5_draw : sp_okV mX5_draw 3 := ⟨sp_inT (List.mem_of_getElem? (i := 327) (by decide +kernel)) (by decide +kernel), sp_inT (List.mem_of_getElem? (i := 60) (by decide +kernel)) (by decide +kernel), ⟨sp_inT (List.mem_of_getElem? (i := 325) (by decide +kernel)) (by decide +kernel), sp_inT (List.mem_of_getElem? (i := 326) (by decide +kernel)) (by decide +kernel)⟩, ⟨by decide +kernel, by decide +kernel⟩, by decide +kernel, by decide⟩
abbrev mX5_follows : sp_M := (yX5_follows, cX5_follows, 4, some .int)
theorem okX5_follows : sp_okV mX5_follows 3 := ⟨sp_inT (List.mem_of_getElem? (i := 342) (by decide +kernel)) (by decide +kernel), sp_inT (List.mem_of_getElem? (i := 60) (by decide +kernel)) (by decide +kernel), ⟨sp_inT (List.mem_of_getElem? (i := 340) (by decide +kernel)) (by decide +kernel), sp_inT (List.mem_of_getElem? (i := 341) (by decide +kernel)) (by decide +kernel)⟩, ⟨by decide +kernel, by decide +kernel⟩, by decide +kernel, by decide⟩
abbrev mX5_undo : sp_M := (yX5_undo, cX5_undo, 1, some .int)
theorem okX5_undo : sp_okV mX5_undo 0 := ⟨sp_inT (List.mem_of_getElem? (i := 360) (by decide +kernel)) (by decide +kernel), sp_inT (List.mem_of_getElem? (i := 60) (by decide +kernel)) (by decide +kernel), ⟨sp_inT (List.mem_of_getElem? (i := 358) (by decide +kernel)) (by decide +kernel), sp_inT (List.mem_of_getElem? (i := 359) (by decide +kernel)) (by decide +kernel)⟩, ⟨by decide +kernel, by decide +kernel⟩, by decide +kernel, by decide⟩
abbrev mX5_of : sp_M := (yX5_of, cX5_of, 3, some .int)
theorem okX5_of : sp_okV mX5_of 2 := ⟨sp_inT (List.mem_of_getElem? (i := 372) (by decide +kernel)) (by decide +kernel), sp_inT (List.mem_of_getElem? (i := 60) (by decide +kernel)) (by decide +kernel), ⟨sp_inT (List.mem_of_getElem? (i := 370) (by decide +kernel)) (by decide +kernel), sp_inT (List.mem_of_getElem? (i := 371) (by decide +kernel)) (by decide +kernel)⟩, ⟨by decide +kernel, by decide +kernel⟩, by decide +kernel, by decide⟩
abbrev mX5_type : sp_M := (yX5_type, cX5_type, 2, some .int)
theorem okX5_type : sp_okV mX5_type 1 := ⟨sp_inT (List.mem_of_getElem? (i := 393) (by decide +kernel)) (by decide +kernel), sp_inT (List.mem_of_getElem? (i := 60) (by decide +kernel)) (by decide +kernel), ⟨sp_inT (List.mem_of_getElem? (i := 391) (by decide +kernel)) (by decide +kernel), sp_inT (List.mem_of_getElem? (i := 392) (by decide +kernel)) (by decide +kernel)⟩, ⟨by decide +kernel, by decide +kernel⟩, by decide +kernel, by decide⟩
abbrev mX5_clear : sp_M := (yX5_clear, cX5_clear, 1, some .int)
theorem okX5_clear : sp_okV mX5_clear 0 := ⟨sp_inT (List.mem_of_getElem? (i := 410) (by decide +kernel)) (by decide +kernel), sp_inT (List.mem_of_getElem? (i := 60) (by decide +kernel)) (by decide +kernel), ⟨sp_inT (List.mem_of_getElem? (i := 408) (by decide +kernel)) (by decide +kernel), sp_inT (List.mem_of_getElem? (i := 409) (by decide +kernel)) (by decide +kernel)⟩, ⟨by decide +kernel, by decide +kernel⟩, by decide +kernel, by decide⟩
abbrev mX5_does : sp_M := (yX5_does, cX5_does, 3, some .int)
theorem okX5_does : sp_okV mX5_does 0 := ⟨sp_inT (List.mem_of_getElem? (i := 418) (by decide +kernel)) (by decide +kernel), sp_inT (List.mem_of_getElem? (i := 60) (by decide +kernel)) (by decide +kernel), ⟨sp_inT (List.mem_of_getElem? (i := 416) (by decide +kernel)) (by decide +kernel), sp_inT (List.mem_of_getElem? (i := 417) (by decide +kernel)) (by decide +kernel)⟩, ⟨by decide +kernel, by decide +kernel⟩, by decide +kernel, by decide⟩
abbrev mX5_styles : sp_M := (yX5_styles, cX5_styles, 1, some .int)
theorem okX5_styles : sp_okV mX5_styles 0 := ⟨sp_inT (List.mem_of_getElem? (i := 528) (by decide +kernel)) (by decide +kernel), sp_inT (List.mem_of_getElem? (i := 60) (by decide +kernel)) (by decide +kernel), ⟨sp_inT (List.mem_of_getElem? (i := 526) (by decide +kernel)) (by decide +kernel), sp_inT (List.mem_of_getElem? (i := 527) (by decide +kernel)) (by decide +kernel)⟩, ⟨by decide +kernel, by decide +kernel⟩, by decide +kernel, by decide⟩
abbrev mX5_style : sp_M := (yX5_style, cX5_style, 3, some .int)
theorem okX5_style : sp_okV mX5_style 2 := ⟨sp_inT (List.mem_of_getElem? (i := 532) (by decide +kernel)) (by decide +kernel), sp_inT (List.mem_of_getElem? (i := 60) (by decide +kernel)) (by decide +kernel), ⟨sp_inT (List.mem_of_getElem? (i := 530) (by decide +kernel)) (by decide +kernel), sp_inT (List.mem_of_getElem? (i := 531) (by decide +kernel)) (by decide +kernel)⟩, ⟨by decide +kernel, by decide +kernel⟩, by decide +kernel, by decide⟩
abbrev mX5_without : sp_M := (yX5_without, cX5_without, 2, some .int)
theorem okX5_without : sp_okV mX5_without 1 := ⟨sp_inT (List.mem_of_getElem? (i := 565) (by decide +kernel)) (by decide +kernel), sp_inT (List.mem_of_getElem? (i := 60) (by decide +kernel)) (by decide +kernel), ⟨sp_inT (List.mem_of_getElem? (i := 563) (by decide +kernel)) (by decide +kernel), sp_inT (List.mem_of_getElem? (i := 564) (by decide +kernel)) (by decide +kernel)⟩, ⟨by decide +kernel, by decide +kernel⟩, by decide +kernel, by decide⟩
abbrev mX5_border : sp_M := (yX5_border, cX5_border, 1, some .int)
theorem okX5_border : sp_okV mX5_border 0 := ⟨sp_inT (List.mem_of_getElem? (i := 569) (by decide +kernel)) (by decide +kernel), sp_inT (List.mem_of_getElem? (i := 60) (by decide +kernel)) (by decide +kernel), ⟨sp_inT (List.mem_of_getElem? (i := 567) (by decide +kernel)) (by decide +kernel), sp_inT (List.mem_of_getElem? (i := 568) (by decide +kernel)) (by decide +kernel)⟩, ⟨by decide +kernel, by decide +kernel⟩, by decide +kernel, by decide⟩
abbrev mX5_beside : sp_M := (yX5_beside, cX5_beside, 3, some .int)
theorem okX5_beside : sp_okV mX5_beside 2 := ⟨sp_inT (List.mem_of_getElem? (i := 577) (by decide +kernel)) (by decide +kernel), sp_inT (List.mem_of_getElem? (i := 60) (by decide +kernel)) (by decide +kernel), ⟨sp_inT (List.mem_of_getElem? (i := 575) (by decide +kernel)) (by decide +kernel), sp_inT (List.mem_of_getElem? (i := 576) (by decide +kernel)) (by decide +kernel)⟩, ⟨by decide +kernel, by decide +kernel⟩, by decide +kernel, by decide⟩
abbrev mX5_unlike : sp_M := (yX5_unlike, cX5_unlike, 7, some .int)
theorem okX5_unlike : sp_okV mX5_unlike 2 := ⟨sp_inT (List.mem_of_getElem? (i := 588) (by decide +kernel)) (by decide +kernel), sp_inT (List.mem_of_getElem? (i := 60) (by decide +kernel)) (by decide +kernel), ⟨sp_inT (List.mem_of_getElem? (i := 586) (by decide +kernel)) (by decide +kernel), sp_inT (List.mem_of_getElem? (i := 587) (by decide +kernel)) (by decide +kernel)⟩, ⟨by decide +kernel, by decide +kernel⟩, by decide +kernel, by decide⟩
abbrev mX5_odd : sp_M := (yX5_odd, cX5_odd, 2, some .int)
theorem okX5_odd : sp_okV mX5_odd 1 := ⟨sp_inT (List.mem_of_getElem? (i := 596) (by decide +kernel)) (by decide +kernel), sp_inT (List.mem_of_getElem? (i := 60) (by decide +kernel)) (by decide +kernel), ⟨sp_inT (List.mem_of_getElem? (i := 594) (by decide +kernel)) (by decide +kernel), sp_inT (List.mem_of_getElem? (i := 595) (by decide +kernel)) (by decide +kernel)⟩, ⟨by decide +kernel, by decide +kernel⟩, by decide +kernel, by decide⟩
abbrev mX5_paper : sp_M := (yX5_paper, cX5_paper, 3, some .int)
theorem okX5_paper : sp_okV mX5_paper 2 := ⟨sp_inT (List.mem_of_getElem? (i := 610) (by decide +kernel)) (by decide +kernel), sp_inT (List.mem_of_getElem? (i := 60) (by decide +kernel)) (by decide +kernel), ⟨sp_inT (List.mem_of_getElem? (i := 608) (by decide +kernel)) (by decide +kernel), sp_inT (List.mem_of_getElem? (i := 609) (by decide +kernel)) (by decide +kernel)⟩, ⟨by decide +kernel, by decide +kernel⟩, by decide +kernel, by decide⟩
abbrev mX5_faces : sp_M := (yX5_faces, cX5_faces, 2, some .int)
theorem okX5_faces : sp_okV mX5_faces 1 := ⟨sp_inT (List.mem_of_getElem? (i := 626) (by decide +kernel)) (by decide +kernel), sp_inT (List.mem_of_getElem? (i := 60) (by decide +kernel)) (by decide +kernel), ⟨sp_inT (List.mem_of_getElem? (i := 624) (by decide +kernel)) (by decide +kernel), sp_inT (List.mem_of_getElem? (i := 625) (by decide +kernel)) (by decide +kernel)⟩, ⟨by decide +kernel, by decide +kernel⟩, by decide +kernel, by decide⟩
abbrev mX5_contest : sp_M := (yX5_contest, cX5_contest, 5, some .int)
theorem okX5_contest : sp_okV mX5_contest 3 := ⟨sp_inT (List.mem_of_getElem? (i := 675) (by decide +kernel)) (by decide +kernel), sp_inT (List.mem_of_getElem? (i := 60) (by decide +kernel)) (by decide +kernel), ⟨sp_inT (List.mem_of_getElem? (i := 673) (by decide +kernel)) (by decide +kernel), sp_inT (List.mem_of_getElem? (i := 674) (by decide +kernel)) (by decide +kernel)⟩, ⟨by decide +kernel, by decide +kernel⟩, by decide +kernel, by decide⟩
abbrev mX5_room : sp_M := (yX5_room, cX5_room, 3, some .int)
theorem okX5_room : sp_okV mX5_room 2 := ⟨sp_inT (List.mem_of_getElem? (i := 680) (by decide +kernel)) (by decide +kernel), sp_inT (List.mem_of_getElem? (i := 60) (by decide +kernel)) (by decide +kernel), ⟨sp_inT (List.mem_of_getElem? (i := 678) (by decide +kernel)) (by decide +kernel), sp_inT (List.mem_of_getElem? (i := 679) (by decide +kernel)) (by decide +kernel)⟩, ⟨by decide +kernel, by decide +kernel⟩, by decide +kernel, by decide⟩
abbrev mX5_rule : sp_M := (yX5_rule, cX5_rule, 6, some .int)
theorem okX5_rule : sp_okV mX5_rule 1 := ⟨sp_inT (List.mem_of_getElem? (i := 692) (by decide +kernel)) (by decide +kernel), sp_inT (List.mem_of_getElem? (i := 60) (by decide +kernel)) (by decide +kernel), ⟨sp_inT (List.mem_of_getElem? (i := 690) (by decide +kernel)) (by decide +kernel), sp_inT (List.mem_of_getElem? (i := 691) (by decide +kernel)) (by decide +kernel)⟩, ⟨by decide +kernel, by decide +kernel⟩, by decide +kernel, by decide⟩
abbrev mX5_leads : sp_M := (yX5_leads, cX5_leads, 3, some .int)
theorem okX5_leads : sp_okV mX5_leads 2 := ⟨sp_inT (List.mem_of_getElem? (i := 700) (by decide +kernel)) (by decide +kernel), sp_inT (List.mem_of_getElem? (i := 60) (by decide +kernel)) (by decide +kernel), ⟨sp_inT (List.mem_of_getElem? (i := 698) (by decide +kernel)) (by decide +kernel), sp_inT (List.mem_of_getElem? (i := 699) (by decide +kernel)) (by decide +kernel)⟩, ⟨by decide +kernel, by decide +kernel⟩, by decide +kernel, by decide⟩
abbrev mX5_lead : sp_M := (yX5_lead, cX5_lead, 4, some .int)
theorem okX5_lead : sp_okV mX5_lead 3 := ⟨sp_inT (List.mem_of_getElem? (i := 712) (by decide +kernel)) (by decide +kernel), sp_inT (List.mem_of_getElem? (i := 60) (by decide +kernel)) (by decide +kernel), ⟨sp_inT (List.mem_of_getElem? (i := 710) (by decide +kernel)) (by decide +kernel), sp_inT (List.mem_of_getElem? (i := 711) (by decide +kernel)) (by decide +kernel)⟩, ⟨by decide +kernel, by decide +kernel⟩, by decide +kernel, by decide⟩
abbrev mX5_fair : sp_M := (yX5_fair, cX5_fair, 8, some .int)
theorem okX5_fair : sp_okV mX5_fair 3 := ⟨sp_inT (List.mem_of_getElem? (i := 724) (by decide +kernel)) (by decide +kernel), sp_inT (List.mem_of_getElem? (i := 60) (by decide +kernel)) (by decide +kernel), ⟨sp_inT (List.mem_of_getElem? (i := 722) (by decide +kernel)) (by decide +kernel), sp_inT (List.mem_of_getElem? (i := 723) (by decide +kernel)) (by decide +kernel)⟩, ⟨by decide +kernel, by decide +kernel⟩, by decide +kernel, by decide⟩
abbrev mX5_place : sp_M := (yX5_place, cX5_place, 6, some .int)
theorem okX5_place : sp_okV mX5_place 3 := ⟨sp_inT (List.mem_of_getElem? (i := 730) (by decide +kernel)) (by decide +kernel), sp_inT (List.mem_of_getElem? (i := 60) (by decide +kernel)) (by decide +kernel), ⟨sp_inT (List.mem_of_getElem? (i := 728) (by decide +kernel)) (by decide +kernel), sp_inT (List.mem_of_getElem? (i := 729) (by decide +kernel)) (by decide +kernel)⟩, ⟨by decide +kernel, by decide +kernel⟩, by decide +kernel, by decide⟩
abbrev mX5_told : sp_M := (yX5_told, cX5_told, 2, some .int)
theorem okX5_told : sp_okV mX5_told 1 := ⟨sp_inT (List.mem_of_getElem? (i := 734) (by decide +kernel)) (by decide +kernel), sp_inT (List.mem_of_getElem? (i := 60) (by decide +kernel)) (by decide +kernel), ⟨sp_inT (List.mem_of_getElem? (i := 732) (by decide +kernel)) (by decide +kernel), sp_inT (List.mem_of_getElem? (i := 733) (by decide +kernel)) (by decide +kernel)⟩, ⟨by decide +kernel, by decide +kernel⟩, by decide +kernel, by decide⟩
abbrev mX5_digest : sp_M := (yX5_digest, cX5_digest, 5, some .long)
theorem okX5_digest : sp_okV mX5_digest 0 := ⟨sp_inT (List.mem_of_getElem? (i := 742) (by decide +kernel)) (by decide +kernel), sp_inT (List.mem_of_getElem? (i := 60) (by decide +kernel)) (by decide +kernel), ⟨sp_inT (List.mem_of_getElem? (i := 740) (by decide +kernel)) (by decide +kernel), sp_inT (List.mem_of_getElem? (i := 741) (by decide +kernel)) (by decide +kernel)⟩, ⟨by decide +kernel, by decide +kernel⟩, by decide +kernel, by decide⟩
abbrev mX5_counter : sp_M := (yX5_counter, cX5_counter, 2, some .int)
theorem okX5_counter : sp_okV mX5_counter 1 := ⟨sp_inT (List.mem_of_getElem? (i := 738) (by decide +kernel)) (by decide +kernel), sp_inT (List.mem_of_getElem? (i := 60) (by decide +kernel)) (by decide +kernel), ⟨sp_inT (List.mem_of_getElem? (i := 737) (by decide +kernel)) (by decide +kernel), sp_inT (List.mem_of_getElem? (i := 24) (by decide +kernel)) (by decide +kernel)⟩, ⟨by decide +kernel, by decide +kernel⟩, by decide +kernel, by decide⟩
abbrev mX5_refuseBad : sp_M := (yX5_refuseBad, cX5_refuseBad, 1, some .int)
theorem okX5_refuseBad : sp_okV mX5_refuseBad 0 := ⟨sp_inT (List.mem_of_getElem? (i := 268) (by decide +kernel)) (by decide +kernel), sp_inT (List.mem_of_getElem? (i := 60) (by decide +kernel)) (by decide +kernel), ⟨sp_inT (List.mem_of_getElem? (i := 267) (by decide +kernel)) (by decide +kernel), sp_inT (List.mem_of_getElem? (i := 0) (by decide +kernel)) (by decide +kernel)⟩, ⟨by decide +kernel, by decide +kernel⟩, by decide +kernel, by decide⟩
abbrev mX5_refuseNo : sp_M := (yX5_refuseNo, cX5_refuseNo, 1, some .int)
theorem okX5_refuseNo : sp_okV mX5_refuseNo 0 := ⟨sp_inT (List.mem_of_getElem? (i := 364) (by decide +kernel)) (by decide +kernel), sp_inT (List.mem_of_getElem? (i := 60) (by decide +kernel)) (by decide +kernel), ⟨sp_inT (List.mem_of_getElem? (i := 363) (by decide +kernel)) (by decide +kernel), sp_inT (List.mem_of_getElem? (i := 1) (by decide +kernel)) (by decide +kernel)⟩, ⟨by decide +kernel, by decide +kernel⟩, by decide +kernel, by decide⟩
abbrev mX5_refuseFull : sp_M := (yX5_refuseFull, cX5_refuseFull, 1, some .int)
theorem okX5_refuseFull : sp_okV mX5_refuseFull 0 := ⟨sp_inT (List.mem_of_getElem? (i := 401) (by decide +kernel)) (by decide +kernel), sp_inT (List.mem_of_getElem? (i := 60) (by decide +kernel)) (by decide +kernel), ⟨sp_inT (List.mem_of_getElem? (i := 400) (by decide +kernel)) (by decide +kernel), sp_inT (List.mem_of_getElem? (i := 4) (by decide +kernel)) (by decide +kernel)⟩, ⟨by decide +kernel, by decide +kernel⟩, by decide +kernel, by decide⟩
abbrev mX5_within : sp_M := (yX5_within, cX5_within, 3, some .boolean)
theorem okX5_within : sp_okS mX5_within 3 := ⟨sp_inT (List.mem_of_getElem? (i := 264) (by decide +kernel)) (by decide +kernel), sp_inT (List.mem_of_getElem? (i := 60) (by decide +kernel)) (by decide +kernel), sp_inT (List.mem_of_getElem? (i := 263) (by decide +kernel)) (by decide +kernel), ⟨by decide +kernel, by decide +kernel⟩, by decide +kernel, by decide⟩
abbrev mX5_isLayer : sp_M := (yX5_isLayer, cX5_isLayer, 1, some .boolean)
theorem okX5_isLayer : sp_okS mX5_isLayer 1 := ⟨sp_inT (List.mem_of_getElem? (i := 261) (by decide +kernel)) (by decide +kernel), sp_inT (List.mem_of_getElem? (i := 60) (by decide +kernel)) (by decide +kernel), sp_inT (List.mem_of_getElem? (i := 260) (by decide +kernel)) (by decide +kernel), ⟨by decide +kernel, by decide +kernel⟩, by decide +kernel, by decide⟩
abbrev mX5_isDistrict : sp_M := (yX5_isDistrict, cX5_isDistrict, 1, some .boolean)
theorem okX5_isDistrict : sp_okS mX5_isDistrict 1 := ⟨sp_inT (List.mem_of_getElem? (i := 293) (by decide +kernel)) (by decide +kernel), sp_inT (List.mem_of_getElem? (i := 60) (by decide +kernel)) (by decide +kernel), sp_inT (List.mem_of_getElem? (i := 292) (by decide +kernel)) (by decide +kernel), ⟨by decide +kernel, by decide +kernel⟩, by decide +kernel, by decide⟩
abbrev mX5_isBlock : sp_M := (yX5_isBlock, cX5_isBlock, 1, some .boolean)
theorem okX5_isBlock : sp_okS mX5_isBlock 1 := ⟨sp_inT (List.mem_of_getElem? (i := 299) (by decide +kernel)) (by decide +kernel), sp_inT (List.mem_of_getElem? (i := 60) (by decide +kernel)) (by decide +kernel), sp_inT (List.mem_of_getElem? (i := 298) (by decide +kernel)) (by decide +kernel), ⟨by decide +kernel, by decide +kernel⟩, by decide +kernel, by decide⟩
abbrev mX5_isName : sp_M := (yX5_isName, cX5_isName, 1, some .boolean)
theorem okX5_isName : sp_okS mX5_isName 1 := ⟨sp_inT (List.mem_of_getElem? (i := 715) (by decide +kernel)) (by decide +kernel), sp_inT (List.mem_of_getElem? (i := 60) (by decide +kernel)) (by decide +kernel), sp_inT (List.mem_of_getElem? (i := 714) (by decide +kernel)) (by decide +kernel), ⟨by decide +kernel, by decide +kernel⟩, by decide +kernel, by decide⟩
abbrev mX5_isRectangle : sp_M := (yX5_isRectangle, cX5_isRectangle, 2, some .boolean)
theorem okX5_isRectangle : sp_okS mX5_isRectangle 2 := ⟨sp_inT (List.mem_of_getElem? (i := 296) (by decide +kernel)) (by decide +kernel), sp_inT (List.mem_of_getElem? (i := 60) (by decide +kernel)) (by decide +kernel), sp_inT (List.mem_of_getElem? (i := 295) (by decide +kernel)) (by decide +kernel), ⟨by decide +kernel, by decide +kernel⟩, by decide +kernel, by decide⟩
abbrev mX5_isStyle : sp_M := (yX5_isStyle, cX5_isStyle, 2, some .boolean)
theorem okX5_isStyle : sp_okV mX5_isStyle 1 := ⟨sp_inT (List.mem_of_getElem? (i := 536) (by decide +kernel)) (by decide +kernel), sp_inT (List.mem_of_getElem? (i := 60) (by decide +kernel)) (by decide +kernel), ⟨sp_inT (List.mem_of_getElem? (i := 535) (by decide +kernel)) (by decide +kernel), sp_inT (List.mem_of_getElem? (i := 11) (by decide +kernel)) (by decide +kernel)⟩, ⟨by decide +kernel, by decide +kernel⟩, by decide +kernel, by decide⟩
abbrev mX5_sortStyles : sp_M := (yX5_sortStyles, cX5_sortStyles, 1, none)
theorem okX5_sortStyles : sp_okV mX5_sortStyles 0 := ⟨sp_inT (List.mem_of_getElem? (i := 376) (by decide +kernel)) (by decide +kernel), sp_inT (List.mem_of_getElem? (i := 60) (by decide +kernel)) (by decide +kernel), ⟨sp_inT (List.mem_of_getElem? (i := 375) (by decide +kernel)) (by decide +kernel), sp_inT (List.mem_of_getElem? (i := 2) (by decide +kernel)) (by decide +kernel)⟩, ⟨by decide +kernel, by decide +kernel⟩, by decide +kernel, by decide⟩
abbrev mX5_sheetsOf : sp_M := (yX5_sheetsOf, cX5_sheetsOf, 3, some .int)
theorem okX5_sheetsOf : sp_okV mX5_sheetsOf 2 := ⟨sp_inT (List.mem_of_getElem? (i := 630) (by decide +kernel)) (by decide +kernel), sp_inT (List.mem_of_getElem? (i := 60) (by decide +kernel)) (by decide +kernel), ⟨sp_inT (List.mem_of_getElem? (i := 629) (by decide +kernel)) (by decide +kernel), sp_inT (List.mem_of_getElem? (i := 13) (by decide +kernel)) (by decide +kernel)⟩, ⟨by decide +kernel, by decide +kernel⟩, by decide +kernel, by decide⟩
abbrev mX5_sheetsOfAll : sp_M := (yX5_sheetsOfAll, cX5_sheetsOfAll, 4, some .int)
theorem okX5_sheetsOfAll : sp_okV mX5_sheetsOfAll 1 := ⟨sp_inT (List.mem_of_getElem? (i := 684) (by decide +kernel)) (by decide +kernel), sp_inT (List.mem_of_getElem? (i := 60) (by decide +kernel)) (by decide +kernel), ⟨sp_inT (List.mem_of_getElem? (i := 683) (by decide +kernel)) (by decide +kernel), sp_inT (List.mem_of_getElem? (i := 21) (by decide +kernel)) (by decide +kernel)⟩, ⟨by decide +kernel, by decide +kernel⟩, by decide +kernel, by decide⟩
abbrev mX5_hasBareStyle : sp_M := (yX5_hasBareStyle, cX5_hasBareStyle, 2, some .boolean)
theorem okX5_hasBareStyle : sp_okV mX5_hasBareStyle 0 := ⟨sp_inT (List.mem_of_getElem? (i := 696) (by decide +kernel)) (by decide +kernel), sp_inT (List.mem_of_getElem? (i := 60) (by decide +kernel)) (by decide +kernel), ⟨sp_inT (List.mem_of_getElem? (i := 695) (by decide +kernel)) (by decide +kernel), sp_inT (List.mem_of_getElem? (i := 22) (by decide +kernel)) (by decide +kernel)⟩, ⟨by decide +kernel, by decide +kernel⟩, by decide +kernel, by decide⟩
abbrev mX6_init : sp_M := (yX6_init, cX6_init, 2, none)
abbrev mX6_in : sp_M := (yX6_in, cX6_in, 3, some .boolean)
theorem okX6_in : sp_okS mX6_in 3 := ⟨sp_inT (List.mem_of_getElem? (i := 822) (by decide +kernel)) (by decide +kernel), sp_inT (List.mem_of_getElem? (i := 66) (by decide +kernel)) (by decide +kernel), sp_inT (List.mem_of_getElem? (i := 821) (by decide +kernel)) (by decide +kernel), ⟨by decide +kernel, by decide +kernel⟩, by decide +kernel, by decide⟩
abbrev mX6_refuses : sp_M := (yX6_refuses, cX6_refuses, 2, some .int)
theorem okX6_refuses : sp_okV mX6_refuses 1 := ⟨sp_inT (List.mem_of_getElem? (i := 826) (by decide +kernel)) (by decide +kernel), sp_inT (List.mem_of_getElem? (i := 66) (by decide +kernel)) (by decide +kernel), ⟨sp_inT (List.mem_of_getElem? (i := 825) (by decide +kernel)) (by decide +kernel), sp_inT (List.mem_of_getElem? (i := 25) (by decide +kernel)) (by decide +kernel)⟩, ⟨by decide +kernel, by decide +kernel⟩, by decide +kernel, by decide⟩
abbrev mX6_isBlock : sp_M := (yX6_isBlock, cX6_isBlock, 1, some .boolean)
theorem okX6_isBlock : sp_okS mX6_isBlock 1 := ⟨sp_inT (List.mem_of_getElem? (i := 848) (by decide +kernel)) (by decide +kernel), sp_inT (List.mem_of_getElem? (i := 66) (by decide +kernel)) (by decide +kernel), sp_inT (List.mem_of_getElem? (i := 847) (by decide +kernel)) (by decide +kernel), ⟨by decide +kernel, by decide +kernel⟩, by decide +kernel, by decide⟩
abbrev mX6_isLayer : sp_M := (yX6_isLayer, cX6_isLayer, 1, some .boolean)
theorem okX6_isLayer : sp_okS mX6_isLayer 1 := ⟨sp_inT (List.mem_of_getElem? (i := 819) (by decide +kernel)) (by decide +kernel), sp_inT (List.mem_of_getElem? (i := 66) (by decide +kernel)) (by decide +kernel), sp_inT (List.mem_of_getElem? (i := 818) (by decide +kernel)) (by decide +kernel), ⟨by decide +kernel, by decide +kernel⟩, by decide +kernel, by decide⟩
abbrev mX6_isDistrict : sp_M := (yX6_isDistrict, cX6_isDistrict, 1, some .boolean)
theorem okX6_isDistrict : sp_okS mX6_isDistrict 1 := ⟨sp_inT (List.mem_of_getElem? (i := 845) (by decide +kernel)) (by decide +kernel), sp_inT (List.mem_of_getElem? (i := 66) (by decide +kernel)) (by decide +kernel), sp_inT (List.mem_of_getElem? (i := 844) (by decide +kernel)) (by decide +kernel), ⟨by decide +kernel, by decide +kernel⟩, by decide +kernel, by decide⟩
abbrev mX6_district : sp_M := (yX6_district, cX6_district, 3, some .int)
theorem okX6_district : sp_okV mX6_district 2 := ⟨sp_inT (List.mem_of_getElem? (i := 859) (by decide +kernel)) (by decide +kernel), sp_inT (List.mem_of_getElem? (i := 66) (by decide +kernel)) (by decide +kernel), ⟨sp_inT (List.mem_of_getElem? (i := 858) (by decide +kernel)) (by decide +kernel), sp_inT (List.mem_of_getElem? (i := 30) (by decide +kernel)) (by decide +kernel)⟩, ⟨by decide +kernel, by decide +kernel⟩, by decide +kernel, by decide⟩
abbrev mX6_namesOf : sp_M := (yX6_namesOf, cX6_namesOf, 3, some .int)
theorem okX6_namesOf : sp_okV mX6_namesOf 2 := ⟨sp_inT (List.mem_of_getElem? (i := 1029) (by decide +kernel)) (by decide +kernel), sp_inT (List.mem_of_getElem? (i := 66) (by decide +kernel)) (by decide +kernel), ⟨sp_inT (List.mem_of_getElem? (i := 1028) (by decide +kernel)) (by decide +kernel), sp_inT (List.mem_of_getElem? (i := 52) (by decide +kernel)) (by decide +kernel)⟩, ⟨by decide +kernel, by decide +kernel⟩, by decide +kernel, by decide⟩
abbrev mX6_isOn : sp_M := (yX6_isOn, cX6_isOn, 2, some .boolean)
theorem okX6_isOn : sp_okV mX6_isOn 1 := ⟨sp_inT (List.mem_of_getElem? (i := 838) (by decide +kernel)) (by decide +kernel), sp_inT (List.mem_of_getElem? (i := 66) (by decide +kernel)) (by decide +kernel), ⟨sp_inT (List.mem_of_getElem? (i := 837) (by decide +kernel)) (by decide +kernel), sp_inT (List.mem_of_getElem? (i := 28) (by decide +kernel)) (by decide +kernel)⟩, ⟨by decide +kernel, by decide +kernel⟩, by decide +kernel, by decide⟩
abbrev mX6_keeps : sp_M := (yX6_keeps, cX6_keeps, 2, none)
theorem okX6_keeps : sp_okV mX6_keeps 0 := ⟨sp_inT (List.mem_of_getElem? (i := 830) (by decide +kernel)) (by decide +kernel), sp_inT (List.mem_of_getElem? (i := 66) (by decide +kernel)) (by decide +kernel), ⟨sp_inT (List.mem_of_getElem? (i := 829) (by decide +kernel)) (by decide +kernel), sp_inT (List.mem_of_getElem? (i := 26) (by decide +kernel)) (by decide +kernel)⟩, ⟨by decide +kernel, by decide +kernel⟩, by decide +kernel, by decide⟩
abbrev mX6_turns : sp_M := (yX6_turns, cX6_turns, 4, some .int)
theorem okX6_turns : sp_okV mX6_turns 2 := ⟨sp_inT (List.mem_of_getElem? (i := 834) (by decide +kernel)) (by decide +kernel), sp_inT (List.mem_of_getElem? (i := 66) (by decide +kernel)) (by decide +kernel), ⟨sp_inT (List.mem_of_getElem? (i := 833) (by decide +kernel)) (by decide +kernel), sp_inT (List.mem_of_getElem? (i := 27) (by decide +kernel)) (by decide +kernel)⟩, ⟨by decide +kernel, by decide +kernel⟩, by decide +kernel, by decide⟩
abbrev mX6_on : sp_M := (yX6_on, cX6_on, 3, some .int)
theorem okX6_on : sp_okV mX6_on 2 := ⟨sp_inT (List.mem_of_getElem? (i := 816) (by decide +kernel)) (by decide +kernel), sp_inT (List.mem_of_getElem? (i := 66) (by decide +kernel)) (by decide +kernel), ⟨sp_inT (List.mem_of_getElem? (i := 814) (by decide +kernel)) (by decide +kernel), sp_inT (List.mem_of_getElem? (i := 815) (by decide +kernel)) (by decide +kernel)⟩, ⟨by decide +kernel, by decide +kernel⟩, by decide +kernel, by decide⟩
abbrev mX6_isRectangle : sp_M := (yX6_isRectangle, cX6_isRectangle, 2, some .boolean)
theorem okX6_isRectangle : sp_okS mX6_isRectangle 2 := ⟨sp_inT (List.mem_of_getElem? (i := 851) (by decide +kernel)) (by decide +kernel), sp_inT (List.mem_of_getElem? (i := 66) (by decide +kernel)) (by decide +kernel), sp_inT (List.mem_of_getElem? (i := 850) (by decide +kernel)) (by decide +kernel), ⟨by decide +kernel, by decide +kernel⟩, by decide +kernel, by decide⟩
abbrev mX6_lays : sp_M := (yX6_lays, cX6_lays, 7, some .int)
theorem okX6_lays : sp_okV mX6_lays 4 := ⟨sp_inT (List.mem_of_getElem? (i := 855) (by decide +kernel)) (by decide +kernel), sp_inT (List.mem_of_getElem? (i := 66) (by decide +kernel)) (by decide +kernel), ⟨sp_inT (List.mem_of_getElem? (i := 854) (by decide +kernel)) (by decide +kernel), sp_inT (List.mem_of_getElem? (i := 29) (by decide +kernel)) (by decide +kernel)⟩, ⟨by decide +kernel, by decide +kernel⟩, by decide +kernel, by decide⟩
abbrev mX6_puts : sp_M := (yX6_puts, cX6_puts, 5, some .int)
theorem okX6_puts : sp_okV mX6_puts 4 := ⟨sp_inT (List.mem_of_getElem? (i := 842) (by decide +kernel)) (by decide +kernel), sp_inT (List.mem_of_getElem? (i := 66) (by decide +kernel)) (by decide +kernel), ⟨sp_inT (List.mem_of_getElem? (i := 840) (by decide +kernel)) (by decide +kernel), sp_inT (List.mem_of_getElem? (i := 841) (by decide +kernel)) (by decide +kernel)⟩, ⟨by decide +kernel, by decide +kernel⟩, by decide +kernel, by decide⟩
abbrev mX6_becomes : sp_M := (yX6_becomes, cX6_becomes, 4, some .int)
theorem okX6_becomes : sp_okV mX6_becomes 2 := ⟨sp_inT (List.mem_of_getElem? (i := 867) (by decide +kernel)) (by decide +kernel), sp_inT (List.mem_of_getElem? (i := 66) (by decide +kernel)) (by decide +kernel), ⟨sp_inT (List.mem_of_getElem? (i := 866) (by decide +kernel)) (by decide +kernel), sp_inT (List.mem_of_getElem? (i := 31) (by decide +kernel)) (by decide +kernel)⟩, ⟨by decide +kernel, by decide +kernel⟩, by decide +kernel, by decide⟩
abbrev mX6_names : sp_M := (yX6_names, cX6_names, 4, some .int)
theorem okX6_names : sp_okV mX6_names 3 := ⟨sp_inT (List.mem_of_getElem? (i := 863) (by decide +kernel)) (by decide +kernel), sp_inT (List.mem_of_getElem? (i := 66) (by decide +kernel)) (by decide +kernel), ⟨sp_inT (List.mem_of_getElem? (i := 861) (by decide +kernel)) (by decide +kernel), sp_inT (List.mem_of_getElem? (i := 862) (by decide +kernel)) (by decide +kernel)⟩, ⟨by decide +kernel, by decide +kernel⟩, by decide +kernel, by decide⟩
abbrev mX6_voters : sp_M := (yX6_voters, cX6_voters, 3, some .int)
theorem okX6_voters : sp_okV mX6_voters 2 := ⟨sp_inT (List.mem_of_getElem? (i := 871) (by decide +kernel)) (by decide +kernel), sp_inT (List.mem_of_getElem? (i := 66) (by decide +kernel)) (by decide +kernel), ⟨sp_inT (List.mem_of_getElem? (i := 869) (by decide +kernel)) (by decide +kernel), sp_inT (List.mem_of_getElem? (i := 870) (by decide +kernel)) (by decide +kernel)⟩, ⟨by decide +kernel, by decide +kernel⟩, by decide +kernel, by decide⟩
abbrev mX6_draw : sp_M := (yX6_draw, cX6_draw, 8, some .int)
theorem okX6_draw : sp_okV mX6_draw 3 := ⟨sp_inT (List.mem_of_getElem? (i := 875) (by decide +kernel)) (by decide +kernel), sp_inT (List.mem_of_getElem? (i := 66) (by decide +kernel)) (by decide +kernel), ⟨sp_inT (List.mem_of_getElem? (i := 873) (by decide +kernel)) (by decide +kernel), sp_inT (List.mem_of_getElem? (i := 874) (by decide +kernel)) (by decide +kernel)⟩, ⟨by decide +kernel, by decide +kernel⟩, by decide +kernel, by decide⟩
abbrev mX6_follows : sp_M := (yX6_follows, cX6_follows, 7, some .int)
theorem okX6_follows : sp_okV mX6_follows 3 := ⟨sp_inT (List.mem_of_getElem? (i := 886) (by decide +kernel)) (by decide +kernel), sp_inT (List.mem_of_getElem? (i := 66) (by decide +kernel)) (by decide +kernel), ⟨sp_inT (List.mem_of_getElem? (i := 884) (by decide +kernel)) (by decide +kernel), sp_inT (List.mem_of_getElem? (i := 885) (by decide +kernel)) (by decide +kernel)⟩, ⟨by decide +kernel, by decide +kernel⟩, by decide +kernel, by decide⟩
abbrev mX6_undo : sp_M := (yX6_undo, cX6_undo, 2, some .int)
theorem okX6_undo : sp_okV mX6_undo 0 := ⟨sp_inT (List.mem_of_getElem? (i := 890) (by decide +kernel)) (by decide +kernel), sp_inT (List.mem_of_getElem? (i := 66) (by decide +kernel)) (by decide +kernel), ⟨sp_inT (List.mem_of_getElem? (i := 888) (by decide +kernel)) (by decide +kernel), sp_inT (List.mem_of_getElem? (i := 889) (by decide +kernel)) (by decide +kernel)⟩, ⟨by decide +kernel, by decide +kernel⟩, by decide +kernel, by decide⟩
abbrev mX6_of : sp_M := (yX6_of, cX6_of, 3, some .int)
theorem okX6_of : sp_okV mX6_of 2 := ⟨sp_inT (List.mem_of_getElem? (i := 894) (by decide +kernel)) (by decide +kernel), sp_inT (List.mem_of_getElem? (i := 66) (by decide +kernel)) (by decide +kernel), ⟨sp_inT (List.mem_of_getElem? (i := 892) (by decide +kernel)) (by decide +kernel), sp_inT (List.mem_of_getElem? (i := 893) (by decide +kernel)) (by decide +kernel)⟩, ⟨by decide +kernel, by decide +kernel⟩, by decide +kernel, by decide⟩
abbrev mX6_type : sp_M := (yX6_type, cX6_type, 2, some .int)
theorem okX6_type : sp_okV mX6_type 1 := ⟨sp_inT (List.mem_of_getElem? (i := 906) (by decide +kernel)) (by decide +kernel), sp_inT (List.mem_of_getElem? (i := 66) (by decide +kernel)) (by decide +kernel), ⟨sp_inT (List.mem_of_getElem? (i := 904) (by decide +kernel)) (by decide +kernel), sp_inT (List.mem_of_getElem? (i := 905) (by decide +kernel)) (by decide +kernel)⟩, ⟨by decide +kernel, by decide +kernel⟩, by decide +kernel, by decide⟩
abbrev mX6_clear : sp_M := (yX6_clear, cX6_clear, 2, some .int)
theorem okX6_clear : sp_okV mX6_clear 0 := ⟨sp_inT (List.mem_of_getElem? (i := 910) (by decide +kernel)) (by decide +kernel), sp_inT (List.mem_of_getElem? (i := 66) (by decide +kernel)) (by decide +kernel), ⟨sp_inT (List.mem_of_getElem? (i := 908) (by decide +kernel)) (by decide +kernel), sp_inT (List.mem_of_getElem? (i := 909) (by decide +kernel)) (by decide +kernel)⟩, ⟨by decide +kernel, by decide +kernel⟩, by decide +kernel, by decide⟩
abbrev mX6_byteAt : sp_M := (yX6_byteAt, cX6_byteAt, 2, some .int)
theorem okX6_byteAt : sp_okV mX6_byteAt 1 := ⟨sp_inT (List.mem_of_getElem? (i := 926) (by decide +kernel)) (by decide +kernel), sp_inT (List.mem_of_getElem? (i := 66) (by decide +kernel)) (by decide +kernel), ⟨sp_inT (List.mem_of_getElem? (i := 925) (by decide +kernel)) (by decide +kernel), sp_inT (List.mem_of_getElem? (i := 36) (by decide +kernel)) (by decide +kernel)⟩, ⟨by decide +kernel, by decide +kernel⟩, by decide +kernel, by decide⟩
abbrev mX6_skips : sp_M := (yX6_skips, cX6_skips, 1, none)
theorem okX6_skips : sp_okV mX6_skips 0 := ⟨sp_inT (List.mem_of_getElem? (i := 922) (by decide +kernel)) (by decide +kernel), sp_inT (List.mem_of_getElem? (i := 66) (by decide +kernel)) (by decide +kernel), ⟨sp_inT (List.mem_of_getElem? (i := 921) (by decide +kernel)) (by decide +kernel), sp_inT (List.mem_of_getElem? (i := 35) (by decide +kernel)) (by decide +kernel)⟩, ⟨by decide +kernel, by decide +kernel⟩, by decide +kernel, by decide⟩
abbrev mX6_isNumber : sp_M := (yX6_isNumber, cX6_isNumber, 7, some .boolean)
theorem okX6_isNumber : sp_okV mX6_isNumber 3 := ⟨sp_inT (List.mem_of_getElem? (i := 942) (by decide +kernel)) (by decide +kernel), sp_inT (List.mem_of_getElem? (i := 66) (by decide +kernel)) (by decide +kernel), ⟨sp_inT (List.mem_of_getElem? (i := 941) (by decide +kernel)) (by decide +kernel), sp_inT (List.mem_of_getElem? (i := 40) (by decide +kernel)) (by decide +kernel)⟩, ⟨by decide +kernel, by decide +kernel⟩, by decide +kernel, by decide⟩
abbrev mX6_isWord : sp_M := (yX6_isWord, cX6_isWord, 5, some .boolean)
theorem okX6_isWord : sp_okV mX6_isWord 2 := ⟨sp_inT (List.mem_of_getElem? (i := 938) (by decide +kernel)) (by decide +kernel), sp_inT (List.mem_of_getElem? (i := 66) (by decide +kernel)) (by decide +kernel), ⟨sp_inT (List.mem_of_getElem? (i := 937) (by decide +kernel)) (by decide +kernel), sp_inT (List.mem_of_getElem? (i := 39) (by decide +kernel)) (by decide +kernel)⟩, ⟨by decide +kernel, by decide +kernel⟩, by decide +kernel, by decide⟩
abbrev mX6_word : sp_M := (yX6_word, cX6_word, 4, some .int)
theorem okX6_word : sp_okV mX6_word 0 := ⟨sp_inT (List.mem_of_getElem? (i := 934) (by decide +kernel)) (by decide +kernel), sp_inT (List.mem_of_getElem? (i := 66) (by decide +kernel)) (by decide +kernel), ⟨sp_inT (List.mem_of_getElem? (i := 933) (by decide +kernel)) (by decide +kernel), sp_inT (List.mem_of_getElem? (i := 38) (by decide +kernel)) (by decide +kernel)⟩, ⟨by decide +kernel, by decide +kernel⟩, by decide +kernel, by decide⟩
abbrev mX6_isEnd : sp_M := (yX6_isEnd, cX6_isEnd, 3, some .boolean)
theorem okX6_isEnd : sp_okV mX6_isEnd 0 := ⟨sp_inT (List.mem_of_getElem? (i := 946) (by decide +kernel)) (by decide +kernel), sp_inT (List.mem_of_getElem? (i := 66) (by decide +kernel)) (by decide +kernel), ⟨sp_inT (List.mem_of_getElem? (i := 945) (by decide +kernel)) (by decide +kernel), sp_inT (List.mem_of_getElem? (i := 41) (by decide +kernel)) (by decide +kernel)⟩, ⟨by decide +kernel, by decide +kernel⟩, by decide +kernel, by decide⟩
abbrev mX6_order : sp_M := (yX6_order, cX6_order, 3, some .int)
theorem okX6_order : sp_okV mX6_order 0 := ⟨sp_inT (List.mem_of_getElem? (i := 930) (by decide +kernel)) (by decide +kernel), sp_inT (List.mem_of_getElem? (i := 66) (by decide +kernel)) (by decide +kernel), ⟨sp_inT (List.mem_of_getElem? (i := 929) (by decide +kernel)) (by decide +kernel), sp_inT (List.mem_of_getElem? (i := 37) (by decide +kernel)) (by decide +kernel)⟩, ⟨by decide +kernel, by decide +kernel⟩, by decide +kernel, by decide⟩
abbrev mX6_done : sp_M := (yX6_done, cX6_done, 2, none)
theorem okX6_done : sp_okV mX6_done 1 := ⟨sp_inT (List.mem_of_getElem? (i := 950) (by decide +kernel)) (by decide +kernel), sp_inT (List.mem_of_getElem? (i := 66) (by decide +kernel)) (by decide +kernel), ⟨sp_inT (List.mem_of_getElem? (i := 949) (by decide +kernel)) (by decide +kernel), sp_inT (List.mem_of_getElem? (i := 42) (by decide +kernel)) (by decide +kernel)⟩, ⟨by decide +kernel, by decide +kernel⟩, by decide +kernel, by decide⟩
abbrev mX6_goesThrough : sp_M := (yX6_goesThrough, cX6_goesThrough, 4, some .int)
theorem okX6_goesThrough : sp_okV mX6_goesThrough 1 := ⟨sp_inT (List.mem_of_getElem? (i := 918) (by decide +kernel)) (by decide +kernel), sp_inT (List.mem_of_getElem? (i := 66) (by decide +kernel)) (by decide +kernel), ⟨sp_inT (List.mem_of_getElem? (i := 917) (by decide +kernel)) (by decide +kernel), sp_inT (List.mem_of_getElem? (i := 34) (by decide +kernel)) (by decide +kernel)⟩, ⟨by decide +kernel, by decide +kernel⟩, by decide +kernel, by decide⟩
abbrev mX6_does : sp_M := (yX6_does, cX6_does, 1, some .int)
theorem okX6_does : sp_okV mX6_does 0 := ⟨sp_inT (List.mem_of_getElem? (i := 914) (by decide +kernel)) (by decide +kernel), sp_inT (List.mem_of_getElem? (i := 66) (by decide +kernel)) (by decide +kernel), ⟨sp_inT (List.mem_of_getElem? (i := 912) (by decide +kernel)) (by decide +kernel), sp_inT (List.mem_of_getElem? (i := 913) (by decide +kernel)) (by decide +kernel)⟩, ⟨by decide +kernel, by decide +kernel⟩, by decide +kernel, by decide⟩
abbrev mX6_isLike : sp_M := (yX6_isLike, cX6_isLike, 5, some .boolean)
theorem okX6_isLike : sp_okV mX6_isLike 2 := ⟨sp_inT (List.mem_of_getElem? (i := 902) (by decide +kernel)) (by decide +kernel), sp_inT (List.mem_of_getElem? (i := 66) (by decide +kernel)) (by decide +kernel), ⟨sp_inT (List.mem_of_getElem? (i := 901) (by decide +kernel)) (by decide +kernel), sp_inT (List.mem_of_getElem? (i := 33) (by decide +kernel)) (by decide +kernel)⟩, ⟨by decide +kernel, by decide +kernel⟩, by decide +kernel, by decide⟩
abbrev mX6_finds : sp_M := (yX6_finds, cX6_finds, 3, none)
theorem okX6_finds : sp_okV mX6_finds 0 := ⟨sp_inT (List.mem_of_getElem? (i := 898) (by decide +kernel)) (by decide +kernel), sp_inT (List.mem_of_getElem? (i := 66) (by decide +kernel)) (by decide +kernel), ⟨sp_inT (List.mem_of_getElem? (i := 897) (by decide +kernel)) (by decide +kernel), sp_inT (List.mem_of_getElem? (i := 32) (by decide +kernel)) (by decide +kernel)⟩, ⟨by decide +kernel, by decide +kernel⟩, by decide +kernel, by decide⟩
abbrev mX6_isStyle : sp_M := (yX6_isStyle, cX6_isStyle, 2, some .boolean)
theorem okX6_isStyle : sp_okV mX6_isStyle 1 := ⟨sp_inT (List.mem_of_getElem? (i := 962) (by decide +kernel)) (by decide +kernel), sp_inT (List.mem_of_getElem? (i := 66) (by decide +kernel)) (by decide +kernel), ⟨sp_inT (List.mem_of_getElem? (i := 961) (by decide +kernel)) (by decide +kernel), sp_inT (List.mem_of_getElem? (i := 43) (by decide +kernel)) (by decide +kernel)⟩, ⟨by decide +kernel, by decide +kernel⟩, by decide +kernel, by decide⟩
abbrev mX6_styles : sp_M := (yX6_styles, cX6_styles, 1, some .int)
theorem okX6_styles : sp_okV mX6_styles 0 := ⟨sp_inT (List.mem_of_getElem? (i := 954) (by decide +kernel)) (by decide +kernel), sp_inT (List.mem_of_getElem? (i := 66) (by decide +kernel)) (by decide +kernel), ⟨sp_inT (List.mem_of_getElem? (i := 952) (by decide +kernel)) (by decide +kernel), sp_inT (List.mem_of_getElem? (i := 953) (by decide +kernel)) (by decide +kernel)⟩, ⟨by decide +kernel, by decide +kernel⟩, by decide +kernel, by decide⟩
abbrev mX6_votersOf : sp_M := (yX6_votersOf, cX6_votersOf, 4, some .int)
theorem okX6_votersOf : sp_okV mX6_votersOf 1 := ⟨sp_inT (List.mem_of_getElem? (i := 970) (by decide +kernel)) (by decide +kernel), sp_inT (List.mem_of_getElem? (i := 66) (by decide +kernel)) (by decide +kernel), ⟨sp_inT (List.mem_of_getElem? (i := 969) (by decide +kernel)) (by decide +kernel), sp_inT (List.mem_of_getElem? (i := 45) (by decide +kernel)) (by decide +kernel)⟩, ⟨by decide +kernel, by decide +kernel⟩, by decide +kernel, by decide⟩
abbrev mX6_blocksOf : sp_M := (yX6_blocksOf, cX6_blocksOf, 4, some .int)
theorem okX6_blocksOf : sp_okV mX6_blocksOf 1 := ⟨sp_inT (List.mem_of_getElem? (i := 966) (by decide +kernel)) (by decide +kernel), sp_inT (List.mem_of_getElem? (i := 66) (by decide +kernel)) (by decide +kernel), ⟨sp_inT (List.mem_of_getElem? (i := 965) (by decide +kernel)) (by decide +kernel), sp_inT (List.mem_of_getElem? (i := 44) (by decide +kernel)) (by decide +kernel)⟩, ⟨by decide +kernel, by decide +kernel⟩, by decide +kernel, by decide⟩
abbrev mX6_isBeside : sp_M := (yX6_isBeside, cX6_isBeside, 2, some .boolean)
theorem okX6_isBeside : sp_okS mX6_isBeside 2 := ⟨sp_inT (List.mem_of_getElem? (i := 977) (by decide +kernel)) (by decide +kernel), sp_inT (List.mem_of_getElem? (i := 66) (by decide +kernel)) (by decide +kernel), sp_inT (List.mem_of_getElem? (i := 976) (by decide +kernel)) (by decide +kernel), ⟨by decide +kernel, by decide +kernel⟩, by decide +kernel, by decide⟩
abbrev mX6_partsOf : sp_M := (yX6_partsOf, cX6_partsOf, 7, some .int)
theorem okX6_partsOf : sp_okV mX6_partsOf 1 := ⟨sp_inT (List.mem_of_getElem? (i := 974) (by decide +kernel)) (by decide +kernel), sp_inT (List.mem_of_getElem? (i := 66) (by decide +kernel)) (by decide +kernel), ⟨sp_inT (List.mem_of_getElem? (i := 973) (by decide +kernel)) (by decide +kernel), sp_inT (List.mem_of_getElem? (i := 46) (by decide +kernel)) (by decide +kernel)⟩, ⟨by decide +kernel, by decide +kernel⟩, by decide +kernel, by decide⟩
abbrev mX6_contestsOn : sp_M := (yX6_contestsOn, cX6_contestsOn, 3, some .int)
theorem okX6_contestsOn : sp_okV mX6_contestsOn 0 := ⟨sp_inT (List.mem_of_getElem? (i := 981) (by decide +kernel)) (by decide +kernel), sp_inT (List.mem_of_getElem? (i := 66) (by decide +kernel)) (by decide +kernel), ⟨sp_inT (List.mem_of_getElem? (i := 980) (by decide +kernel)) (by decide +kernel), sp_inT (List.mem_of_getElem? (i := 47) (by decide +kernel)) (by decide +kernel)⟩, ⟨by decide +kernel, by decide +kernel⟩, by decide +kernel, by decide⟩
abbrev mX6_style : sp_M := (yX6_style, cX6_style, 3, some .int)
theorem okX6_style : sp_okV mX6_style 2 := ⟨sp_inT (List.mem_of_getElem? (i := 958) (by decide +kernel)) (by decide +kernel), sp_inT (List.mem_of_getElem? (i := 66) (by decide +kernel)) (by decide +kernel), ⟨sp_inT (List.mem_of_getElem? (i := 956) (by decide +kernel)) (by decide +kernel), sp_inT (List.mem_of_getElem? (i := 957) (by decide +kernel)) (by decide +kernel)⟩, ⟨by decide +kernel, by decide +kernel⟩, by decide +kernel, by decide⟩
abbrev mX6_without : sp_M := (yX6_without, cX6_without, 3, some .int)
theorem okX6_without : sp_okV mX6_without 1 := ⟨sp_inT (List.mem_of_getElem? (i := 985) (by decide +kernel)) (by decide +kernel), sp_inT (List.mem_of_getElem? (i := 66) (by decide +kernel)) (by decide +kernel), ⟨sp_inT (List.mem_of_getElem? (i := 983) (by decide +kernel)) (by decide +kernel), sp_inT (List.mem_of_getElem? (i := 984) (by decide +kernel)) (by decide +kernel)⟩, ⟨by decide +kernel, by decide +kernel⟩, by decide +kernel, by decide⟩
abbrev mX6_borderOf : sp_M := (yX6_borderOf, cX6_borderOf, 4, some .int)
theorem okX6_borderOf : sp_okV mX6_borderOf 0 := ⟨sp_inT (List.mem_of_getElem? (i := 993) (by decide +kernel)) (by decide +kernel), sp_inT (List.mem_of_getElem? (i := 66) (by decide +kernel)) (by decide +kernel), ⟨sp_inT (List.mem_of_getElem? (i := 992) (by decide +kernel)) (by decide +kernel), sp_inT (List.mem_of_getElem? (i := 48) (by decide +kernel)) (by decide +kernel)⟩, ⟨by decide +kernel, by decide +kernel⟩, by decide +kernel, by decide⟩
abbrev mX6_border : sp_M := (yX6_border, cX6_border, 1, some .int)
theorem okX6_border : sp_okV mX6_border 0 := ⟨sp_inT (List.mem_of_getElem? (i := 989) (by decide +kernel)) (by decide +kernel), sp_inT (List.mem_of_getElem? (i := 66) (by decide +kernel)) (by decide +kernel), ⟨sp_inT (List.mem_of_getElem? (i := 987) (by decide +kernel)) (by decide +kernel), sp_inT (List.mem_of_getElem? (i := 988) (by decide +kernel)) (by decide +kernel)⟩, ⟨by decide +kernel, by decide +kernel⟩, by decide +kernel, by decide⟩
abbrev mX6_beside : sp_M := (yX6_beside, cX6_beside, 6, some .int)
theorem okX6_beside : sp_okV mX6_beside 2 := ⟨sp_inT (List.mem_of_getElem? (i := 997) (by decide +kernel)) (by decide +kernel), sp_inT (List.mem_of_getElem? (i := 66) (by decide +kernel)) (by decide +kernel), ⟨sp_inT (List.mem_of_getElem? (i := 995) (by decide +kernel)) (by decide +kernel), sp_inT (List.mem_of_getElem? (i := 996) (by decide +kernel)) (by decide +kernel)⟩, ⟨by decide +kernel, by decide +kernel⟩, by decide +kernel, by decide⟩
abbrev mX6_unlike : sp_M := (yX6_unlike, cX6_unlike, 5, some .int)
theorem okX6_unlike : sp_okV mX6_unlike 2 := ⟨sp_inT (List.mem_of_getElem? (i := 1001) (by decide +kernel)) (by decide +kernel), sp_inT (List.mem_of_getElem? (i := 66) (by decide +kernel)) (by decide +kernel), ⟨sp_inT (List.mem_of_getElem? (i := 999) (by decide +kernel)) (by decide +kernel), sp_inT (List.mem_of_getElem? (i := 1000) (by decide +kernel)) (by decide +kernel)⟩, ⟨by decide +kernel, by decide +kernel⟩, by decide +kernel, by decide⟩
abbrev mX6_odd : sp_M := (yX6_odd, cX6_odd, 5, some .int)
theorem okX6_odd : sp_okV mX6_odd 1 := ⟨sp_inT (List.mem_of_getElem? (i := 1005) (by decide +kernel)) (by decide +kernel), sp_inT (List.mem_of_getElem? (i := 66) (by decide +kernel)) (by decide +kernel), ⟨sp_inT (List.mem_of_getElem? (i := 1003) (by decide +kernel)) (by decide +kernel), sp_inT (List.mem_of_getElem? (i := 1004) (by decide +kernel)) (by decide +kernel)⟩, ⟨by decide +kernel, by decide +kernel⟩, by decide +kernel, by decide⟩
abbrev mX6_paper : sp_M := (yX6_paper, cX6_paper, 5, some .int)
theorem okX6_paper : sp_okV mX6_paper 2 := ⟨sp_inT (List.mem_of_getElem? (i := 1009) (by decide +kernel)) (by decide +kernel), sp_inT (List.mem_of_getElem? (i := 66) (by decide +kernel)) (by decide +kernel), ⟨sp_inT (List.mem_of_getElem? (i := 1007) (by decide +kernel)) (by decide +kernel), sp_inT (List.mem_of_getElem? (i := 1008) (by decide +kernel)) (by decide +kernel)⟩, ⟨by decide +kernel, by decide +kernel⟩, by decide +kernel, by decide⟩
abbrev mX6_heightOf : sp_M := (yX6_heightOf, cX6_heightOf, 3, some .int)
theorem okX6_heightOf : sp_okV mX6_heightOf 2 := ⟨sp_inT (List.mem_of_getElem? (i := 1025) (by decide +kernel)) (by decide +kernel), sp_inT (List.mem_of_getElem? (i := 66) (by decide +kernel)) (by decide +kernel), ⟨sp_inT (List.mem_of_getElem? (i := 1024) (by decide +kernel)) (by decide +kernel), sp_inT (List.mem_of_getElem? (i := 51) (by decide +kernel)) (by decide +kernel)⟩, ⟨by decide +kernel, by decide +kernel⟩, by decide +kernel, by decide⟩
abbrev mX6_begins : sp_M := (yX6_begins, cX6_begins, 2, none)
theorem okX6_begins : sp_okV mX6_begins 0 := ⟨sp_inT (List.mem_of_getElem? (i := 1021) (by decide +kernel)) (by decide +kernel), sp_inT (List.mem_of_getElem? (i := 66) (by decide +kernel)) (by decide +kernel), ⟨sp_inT (List.mem_of_getElem? (i := 1020) (by decide +kernel)) (by decide +kernel), sp_inT (List.mem_of_getElem? (i := 50) (by decide +kernel)) (by decide +kernel)⟩, ⟨by decide +kernel, by decide +kernel⟩, by decide +kernel, by decide⟩
abbrev mX6_columnBy : sp_M := (yX6_columnBy, cX6_columnBy, 8, some .int)
theorem okX6_columnBy : sp_okV mX6_columnBy 3 := ⟨sp_inT (List.mem_of_getElem? (i := 1033) (by decide +kernel)) (by decide +kernel), sp_inT (List.mem_of_getElem? (i := 66) (by decide +kernel)) (by decide +kernel), ⟨sp_inT (List.mem_of_getElem? (i := 1032) (by decide +kernel)) (by decide +kernel), sp_inT (List.mem_of_getElem? (i := 53) (by decide +kernel)) (by decide +kernel)⟩, ⟨by decide +kernel, by decide +kernel⟩, by decide +kernel, by decide⟩
abbrev mX6_prints : sp_M := (yX6_prints, cX6_prints, 8, some .int)
theorem okX6_prints : sp_okV mX6_prints 2 := ⟨sp_inT (List.mem_of_getElem? (i := 1017) (by decide +kernel)) (by decide +kernel), sp_inT (List.mem_of_getElem? (i := 66) (by decide +kernel)) (by decide +kernel), ⟨sp_inT (List.mem_of_getElem? (i := 1016) (by decide +kernel)) (by decide +kernel), sp_inT (List.mem_of_getElem? (i := 49) (by decide +kernel)) (by decide +kernel)⟩, ⟨by decide +kernel, by decide +kernel⟩, by decide +kernel, by decide⟩
abbrev mX6_faces : sp_M := (yX6_faces, cX6_faces, 2, some .int)
theorem okX6_faces : sp_okV mX6_faces 1 := ⟨sp_inT (List.mem_of_getElem? (i := 1013) (by decide +kernel)) (by decide +kernel), sp_inT (List.mem_of_getElem? (i := 66) (by decide +kernel)) (by decide +kernel), ⟨sp_inT (List.mem_of_getElem? (i := 1011) (by decide +kernel)) (by decide +kernel), sp_inT (List.mem_of_getElem? (i := 1012) (by decide +kernel)) (by decide +kernel)⟩, ⟨by decide +kernel, by decide +kernel⟩, by decide +kernel, by decide⟩
abbrev mX6_contest : sp_M := (yX6_contest, cX6_contest, 5, some .int)
theorem okX6_contest : sp_okV mX6_contest 3 := ⟨sp_inT (List.mem_of_getElem? (i := 1037) (by decide +kernel)) (by decide +kernel), sp_inT (List.mem_of_getElem? (i := 66) (by decide +kernel)) (by decide +kernel), ⟨sp_inT (List.mem_of_getElem? (i := 1035) (by decide +kernel)) (by decide +kernel), sp_inT (List.mem_of_getElem? (i := 1036) (by decide +kernel)) (by decide +kernel)⟩, ⟨by decide +kernel, by decide +kernel⟩, by decide +kernel, by decide⟩
abbrev mX6_facesBy : sp_M := (yX6_facesBy, cX6_facesBy, 7, some .int)
theorem okX6_facesBy : sp_okV mX6_facesBy 2 := ⟨sp_inT (List.mem_of_getElem? (i := 1045) (by decide +kernel)) (by decide +kernel), sp_inT (List.mem_of_getElem? (i := 66) (by decide +kernel)) (by decide +kernel), ⟨sp_inT (List.mem_of_getElem? (i := 1044) (by decide +kernel)) (by decide +kernel), sp_inT (List.mem_of_getElem? (i := 54) (by decide +kernel)) (by decide +kernel)⟩, ⟨by decide +kernel, by decide +kernel⟩, by decide +kernel, by decide⟩
abbrev mX6_room : sp_M := (yX6_room, cX6_room, 5, some .int)
theorem okX6_room : sp_okV mX6_room 2 := ⟨sp_inT (List.mem_of_getElem? (i := 1041) (by decide +kernel)) (by decide +kernel), sp_inT (List.mem_of_getElem? (i := 66) (by decide +kernel)) (by decide +kernel), ⟨sp_inT (List.mem_of_getElem? (i := 1039) (by decide +kernel)) (by decide +kernel), sp_inT (List.mem_of_getElem? (i := 1040) (by decide +kernel)) (by decide +kernel)⟩, ⟨by decide +kernel, by decide +kernel⟩, by decide +kernel, by decide⟩
abbrev mX6_rule : sp_M := (yX6_rule, cX6_rule, 6, some .int)
theorem okX6_rule : sp_okV mX6_rule 1 := ⟨sp_inT (List.mem_of_getElem? (i := 1049) (by decide +kernel)) (by decide +kernel), sp_inT (List.mem_of_getElem? (i := 66) (by decide +kernel)) (by decide +kernel), ⟨sp_inT (List.mem_of_getElem? (i := 1047) (by decide +kernel)) (by decide +kernel), sp_inT (List.mem_of_getElem? (i := 1048) (by decide +kernel)) (by decide +kernel)⟩, ⟨by decide +kernel, by decide +kernel⟩, by decide +kernel, by decide⟩
abbrev mX6_rank : sp_M := (yX6_rank, cX6_rank, 5, some .int)
theorem okX6_rank : sp_okV mX6_rank 2 := ⟨sp_inT (List.mem_of_getElem? (i := 1061) (by decide +kernel)) (by decide +kernel), sp_inT (List.mem_of_getElem? (i := 66) (by decide +kernel)) (by decide +kernel), ⟨sp_inT (List.mem_of_getElem? (i := 1060) (by decide +kernel)) (by decide +kernel), sp_inT (List.mem_of_getElem? (i := 56) (by decide +kernel)) (by decide +kernel)⟩, ⟨by decide +kernel, by decide +kernel⟩, by decide +kernel, by decide⟩
abbrev mX6_leader : sp_M := (yX6_leader, cX6_leader, 3, some .int)
theorem okX6_leader : sp_okV mX6_leader 2 := ⟨sp_inT (List.mem_of_getElem? (i := 1057) (by decide +kernel)) (by decide +kernel), sp_inT (List.mem_of_getElem? (i := 66) (by decide +kernel)) (by decide +kernel), ⟨sp_inT (List.mem_of_getElem? (i := 1056) (by decide +kernel)) (by decide +kernel), sp_inT (List.mem_of_getElem? (i := 55) (by decide +kernel)) (by decide +kernel)⟩, ⟨by decide +kernel, by decide +kernel⟩, by decide +kernel, by decide⟩
abbrev mX6_leads : sp_M := (yX6_leads, cX6_leads, 3, some .int)
theorem okX6_leads : sp_okV mX6_leads 2 := ⟨sp_inT (List.mem_of_getElem? (i := 1053) (by decide +kernel)) (by decide +kernel), sp_inT (List.mem_of_getElem? (i := 66) (by decide +kernel)) (by decide +kernel), ⟨sp_inT (List.mem_of_getElem? (i := 1051) (by decide +kernel)) (by decide +kernel), sp_inT (List.mem_of_getElem? (i := 1052) (by decide +kernel)) (by decide +kernel)⟩, ⟨by decide +kernel, by decide +kernel⟩, by decide +kernel, by decide⟩
abbrev mX6_leadOf : sp_M := (yX6_leadOf, cX6_leadOf, 7, some .int)
theorem okX6_leadOf : sp_okV mX6_leadOf 4 := ⟨sp_inT (List.mem_of_getElem? (i := 1069) (by decide +kernel)) (by decide +kernel), sp_inT (List.mem_of_getElem? (i := 66) (by decide +kernel)) (by decide +kernel), ⟨sp_inT (List.mem_of_getElem? (i := 1068) (by decide +kernel)) (by decide +kernel), sp_inT (List.mem_of_getElem? (i := 57) (by decide +kernel)) (by decide +kernel)⟩, ⟨by decide +kernel, by decide +kernel⟩, by decide +kernel, by decide⟩
abbrev mX6_lead : sp_M := (yX6_lead, cX6_lead, 4, some .int)
theorem okX6_lead : sp_okV mX6_lead 3 := ⟨sp_inT (List.mem_of_getElem? (i := 1065) (by decide +kernel)) (by decide +kernel), sp_inT (List.mem_of_getElem? (i := 66) (by decide +kernel)) (by decide +kernel), ⟨sp_inT (List.mem_of_getElem? (i := 1063) (by decide +kernel)) (by decide +kernel), sp_inT (List.mem_of_getElem? (i := 1064) (by decide +kernel)) (by decide +kernel)⟩, ⟨by decide +kernel, by decide +kernel⟩, by decide +kernel, by decide⟩
abbrev mX6_fair : sp_M := (yX6_fair, cX6_fair, 8, some .int)
theorem okX6_fair : sp_okV mX6_fair 3 := ⟨sp_inT (List.mem_of_getElem? (i := 1073) (by decide +kernel)) (by decide +kernel), sp_inT (List.mem_of_getElem? (i := 66) (by decide +kernel)) (by decide +kernel), ⟨sp_inT (List.mem_of_getElem? (i := 1071) (by decide +kernel)) (by decide +kernel), sp_inT (List.mem_of_getElem? (i := 1072) (by decide +kernel)) (by decide +kernel)⟩, ⟨by decide +kernel, by decide +kernel⟩, by decide +kernel, by decide⟩
abbrev mX6_place : sp_M := (yX6_place, cX6_place, 5, some .int)
theorem okX6_place : sp_okV mX6_place 3 := ⟨sp_inT (List.mem_of_getElem? (i := 1078) (by decide +kernel)) (by decide +kernel), sp_inT (List.mem_of_getElem? (i := 66) (by decide +kernel)) (by decide +kernel), ⟨sp_inT (List.mem_of_getElem? (i := 1076) (by decide +kernel)) (by decide +kernel), sp_inT (List.mem_of_getElem? (i := 1077) (by decide +kernel)) (by decide +kernel)⟩, ⟨by decide +kernel, by decide +kernel⟩, by decide +kernel, by decide⟩
abbrev mX6_toldOf : sp_M := (yX6_toldOf, cX6_toldOf, 2, some .int)
theorem okX6_toldOf : sp_okV mX6_toldOf 1 := ⟨sp_inT (List.mem_of_getElem? (i := 1086) (by decide +kernel)) (by decide +kernel), sp_inT (List.mem_of_getElem? (i := 66) (by decide +kernel)) (by decide +kernel), ⟨sp_inT (List.mem_of_getElem? (i := 1085) (by decide +kernel)) (by decide +kernel), sp_inT (List.mem_of_getElem? (i := 58) (by decide +kernel)) (by decide +kernel)⟩, ⟨by decide +kernel, by decide +kernel⟩, by decide +kernel, by decide⟩
abbrev mX6_told : sp_M := (yX6_told, cX6_told, 2, some .int)
theorem okX6_told : sp_okV mX6_told 1 := ⟨sp_inT (List.mem_of_getElem? (i := 1082) (by decide +kernel)) (by decide +kernel), sp_inT (List.mem_of_getElem? (i := 66) (by decide +kernel)) (by decide +kernel), ⟨sp_inT (List.mem_of_getElem? (i := 1080) (by decide +kernel)) (by decide +kernel), sp_inT (List.mem_of_getElem? (i := 1081) (by decide +kernel)) (by decide +kernel)⟩, ⟨by decide +kernel, by decide +kernel⟩, by decide +kernel, by decide⟩
abbrev mX6_digest : sp_M := (yX6_digest, cX6_digest, 5, some .long)
theorem okX6_digest : sp_okV mX6_digest 0 := ⟨sp_inT (List.mem_of_getElem? (i := 1090) (by decide +kernel)) (by decide +kernel), sp_inT (List.mem_of_getElem? (i := 66) (by decide +kernel)) (by decide +kernel), ⟨sp_inT (List.mem_of_getElem? (i := 1088) (by decide +kernel)) (by decide +kernel), sp_inT (List.mem_of_getElem? (i := 1089) (by decide +kernel)) (by decide +kernel)⟩, ⟨by decide +kernel, by decide +kernel⟩, by decide +kernel, by decide⟩
abbrev mX0_init : sp_M := (yX0_init, cX0_init, 1, none)
abbrev mX0_setColumns : sp_M := (yX0_setColumns, cX0_setColumns, 3, some .int)
theorem okX0_setColumns : sp_okV mX0_setColumns 1 := ⟨sp_inT (List.mem_of_getElem? (i := 614) (by decide +kernel)) (by decide +kernel), sp_inT (List.mem_of_getElem? (i := 64) (by decide +kernel)) (by decide +kernel), ⟨sp_inT (List.mem_of_getElem? (i := 612) (by decide +kernel)) (by decide +kernel), sp_inT (List.mem_of_getElem? (i := 613) (by decide +kernel)) (by decide +kernel)⟩, ⟨by decide +kernel, by decide +kernel⟩, by decide +kernel, by decide⟩
abbrev mX0_setDepth : sp_M := (yX0_setDepth, cX0_setDepth, 3, some .int)
theorem okX0_setDepth : sp_okV mX0_setDepth 1 := ⟨sp_inT (List.mem_of_getElem? (i := 618) (by decide +kernel)) (by decide +kernel), sp_inT (List.mem_of_getElem? (i := 64) (by decide +kernel)) (by decide +kernel), ⟨sp_inT (List.mem_of_getElem? (i := 616) (by decide +kernel)) (by decide +kernel), sp_inT (List.mem_of_getElem? (i := 617) (by decide +kernel)) (by decide +kernel)⟩, ⟨by decide +kernel, by decide +kernel⟩, by decide +kernel, by decide⟩
abbrev mX0_setRule : sp_M := (yX0_setRule, cX0_setRule, 3, some .int)
theorem okX0_setRule : sp_okV mX0_setRule 1 := ⟨sp_inT (List.mem_of_getElem? (i := 622) (by decide +kernel)) (by decide +kernel), sp_inT (List.mem_of_getElem? (i := 64) (by decide +kernel)) (by decide +kernel), ⟨sp_inT (List.mem_of_getElem? (i := 620) (by decide +kernel)) (by decide +kernel), sp_inT (List.mem_of_getElem? (i := 621) (by decide +kernel)) (by decide +kernel)⟩, ⟨by decide +kernel, by decide +kernel⟩, by decide +kernel, by decide⟩
abbrev mX0_layContests : sp_M := (yX0_layContests, cX0_layContests, 5, none)
theorem okX0_layContests : sp_okV mX0_layContests 3 := ⟨sp_inT (List.mem_of_getElem? (i := 634) (by decide +kernel)) (by decide +kernel), sp_inT (List.mem_of_getElem? (i := 64) (by decide +kernel)) (by decide +kernel), ⟨sp_inT (List.mem_of_getElem? (i := 632) (by decide +kernel)) (by decide +kernel), sp_inT (List.mem_of_getElem? (i := 633) (by decide +kernel)) (by decide +kernel)⟩, ⟨by decide +kernel, by decide +kernel⟩, by decide +kernel, by decide⟩
abbrev mX0_layOne : sp_M := (yX0_layOne, cX0_layOne, 4, none)
theorem okX0_layOne : sp_okV mX0_layOne 2 := ⟨sp_inT (List.mem_of_getElem? (i := 651) (by decide +kernel)) (by decide +kernel), sp_inT (List.mem_of_getElem? (i := 64) (by decide +kernel)) (by decide +kernel), ⟨sp_inT (List.mem_of_getElem? (i := 650) (by decide +kernel)) (by decide +kernel), sp_inT (List.mem_of_getElem? (i := 15) (by decide +kernel)) (by decide +kernel)⟩, ⟨by decide +kernel, by decide +kernel⟩, by decide +kernel, by decide⟩
abbrev mX0_beginSheet : sp_M := (yX0_beginSheet, cX0_beginSheet, 2, none)
theorem okX0_beginSheet : sp_okV mX0_beginSheet 0 := ⟨sp_inT (List.mem_of_getElem? (i := 638) (by decide +kernel)) (by decide +kernel), sp_inT (List.mem_of_getElem? (i := 64) (by decide +kernel)) (by decide +kernel), ⟨sp_inT (List.mem_of_getElem? (i := 637) (by decide +kernel)) (by decide +kernel), sp_inT (List.mem_of_getElem? (i := 14) (by decide +kernel)) (by decide +kernel)⟩, ⟨by decide +kernel, by decide +kernel⟩, by decide +kernel, by decide⟩
abbrev mX0_columnFor : sp_M := (yX0_columnFor, cX0_columnFor, 3, some .int)
theorem okX0_columnFor : sp_okV mX0_columnFor 2 := ⟨sp_inT (List.mem_of_getElem? (i := 655) (by decide +kernel)) (by decide +kernel), sp_inT (List.mem_of_getElem? (i := 64) (by decide +kernel)) (by decide +kernel), ⟨sp_inT (List.mem_of_getElem? (i := 654) (by decide +kernel)) (by decide +kernel), sp_inT (List.mem_of_getElem? (i := 16) (by decide +kernel)) (by decide +kernel)⟩, ⟨by decide +kernel, by decide +kernel⟩, by decide +kernel, by decide⟩
abbrev mX0_nextColumn : sp_M := (yX0_nextColumn, cX0_nextColumn, 3, some .int)
theorem okX0_nextColumn : sp_okV mX0_nextColumn 1 := ⟨sp_inT (List.mem_of_getElem? (i := 659) (by decide +kernel)) (by decide +kernel), sp_inT (List.mem_of_getElem? (i := 64) (by decide +kernel)) (by decide +kernel), ⟨sp_inT (List.mem_of_getElem? (i := 658) (by decide +kernel)) (by decide +kernel), sp_inT (List.mem_of_getElem? (i := 17) (by decide +kernel)) (by decide +kernel)⟩, ⟨by decide +kernel, by decide +kernel⟩, by decide +kernel, by decide⟩
abbrev mX0_firstColumn : sp_M := (yX0_firstColumn, cX0_firstColumn, 3, some .int)
theorem okX0_firstColumn : sp_okV mX0_firstColumn 1 := ⟨sp_inT (List.mem_of_getElem? (i := 663) (by decide +kernel)) (by decide +kernel), sp_inT (List.mem_of_getElem? (i := 64) (by decide +kernel)) (by decide +kernel), ⟨sp_inT (List.mem_of_getElem? (i := 662) (by decide +kernel)) (by decide +kernel), sp_inT (List.mem_of_getElem? (i := 18) (by decide +kernel)) (by decide +kernel)⟩, ⟨by decide +kernel, by decide +kernel⟩, by decide +kernel, by decide⟩
abbrev mX0_tightColumn : sp_M := (yX0_tightColumn, cX0_tightColumn, 4, some .int)
theorem okX0_tightColumn : sp_okV mX0_tightColumn 1 := ⟨sp_inT (List.mem_of_getElem? (i := 667) (by decide +kernel)) (by decide +kernel), sp_inT (List.mem_of_getElem? (i := 64) (by decide +kernel)) (by decide +kernel), ⟨sp_inT (List.mem_of_getElem? (i := 666) (by decide +kernel)) (by decide +kernel), sp_inT (List.mem_of_getElem? (i := 19) (by decide +kernel)) (by decide +kernel)⟩, ⟨by decide +kernel, by decide +kernel⟩, by decide +kernel, by decide⟩
abbrev mX0_looseColumn : sp_M := (yX0_looseColumn, cX0_looseColumn, 4, some .int)
theorem okX0_looseColumn : sp_okV mX0_looseColumn 1 := ⟨sp_inT (List.mem_of_getElem? (i := 671) (by decide +kernel)) (by decide +kernel), sp_inT (List.mem_of_getElem? (i := 64) (by decide +kernel)) (by decide +kernel), ⟨sp_inT (List.mem_of_getElem? (i := 670) (by decide +kernel)) (by decide +kernel), sp_inT (List.mem_of_getElem? (i := 20) (by decide +kernel)) (by decide +kernel)⟩, ⟨by decide +kernel, by decide +kernel⟩, by decide +kernel, by decide⟩
abbrev mX0_roomLeft : sp_M := (yX0_roomLeft, cX0_roomLeft, 3, some .int)
theorem okX0_roomLeft : sp_okV mX0_roomLeft 0 := ⟨sp_inT (List.mem_of_getElem? (i := 688) (by decide +kernel)) (by decide +kernel), sp_inT (List.mem_of_getElem? (i := 64) (by decide +kernel)) (by decide +kernel), ⟨sp_inT (List.mem_of_getElem? (i := 686) (by decide +kernel)) (by decide +kernel), sp_inT (List.mem_of_getElem? (i := 687) (by decide +kernel)) (by decide +kernel)⟩, ⟨by decide +kernel, by decide +kernel⟩, by decide +kernel, by decide⟩
abbrev mX1_init : sp_M := (yX1_init, cX1_init, 2, none)
abbrev mX1_keep : sp_M := (yX1_keep, cX1_keep, 3, some (.object "StylePapers$Town"))
theorem okX1_keep : sp_okV mX1_keep 1 := ⟨sp_inT (List.mem_of_getElem? (i := 272) (by decide +kernel)) (by decide +kernel), sp_inT (List.mem_of_getElem? (i := 62) (by decide +kernel)) (by decide +kernel), ⟨sp_inT (List.mem_of_getElem? (i := 270) (by decide +kernel)) (by decide +kernel), sp_inT (List.mem_of_getElem? (i := 271) (by decide +kernel)) (by decide +kernel)⟩, ⟨by decide +kernel, by decide +kernel⟩, by decide +kernel, by decide⟩
abbrev mX1_takeBack : sp_M := (yX1_takeBack, cX1_takeBack, 2, some .int)
theorem okX1_takeBack : sp_okV mX1_takeBack 1 := ⟨sp_inT (List.mem_of_getElem? (i := 368) (by decide +kernel)) (by decide +kernel), sp_inT (List.mem_of_getElem? (i := 62) (by decide +kernel)) (by decide +kernel), ⟨sp_inT (List.mem_of_getElem? (i := 366) (by decide +kernel)) (by decide +kernel), sp_inT (List.mem_of_getElem? (i := 367) (by decide +kernel)) (by decide +kernel)⟩, ⟨by decide +kernel, by decide +kernel⟩, by decide +kernel, by decide⟩
abbrev mX2_init : sp_M := (yX2_init, cX2_init, 1, none)
abbrev mX2_isFull : sp_M := (yX2_isFull, cX2_isFull, 1, some .boolean)
theorem okX2_isFull : sp_okV mX2_isFull 0 := ⟨sp_inT (List.mem_of_getElem? (i := 397) (by decide +kernel)) (by decide +kernel), sp_inT (List.mem_of_getElem? (i := 65) (by decide +kernel)) (by decide +kernel), ⟨sp_inT (List.mem_of_getElem? (i := 395) (by decide +kernel)) (by decide +kernel), sp_inT (List.mem_of_getElem? (i := 396) (by decide +kernel)) (by decide +kernel)⟩, ⟨by decide +kernel, by decide +kernel⟩, by decide +kernel, by decide⟩
abbrev mX2_addByte : sp_M := (yX2_addByte, cX2_addByte, 2, some .int)
theorem okX2_addByte : sp_okV mX2_addByte 1 := ⟨sp_inT (List.mem_of_getElem? (i := 405) (by decide +kernel)) (by decide +kernel), sp_inT (List.mem_of_getElem? (i := 65) (by decide +kernel)) (by decide +kernel), ⟨sp_inT (List.mem_of_getElem? (i := 403) (by decide +kernel)) (by decide +kernel), sp_inT (List.mem_of_getElem? (i := 404) (by decide +kernel)) (by decide +kernel)⟩, ⟨by decide +kernel, by decide +kernel⟩, by decide +kernel, by decide⟩
abbrev mX2_makeEmpty : sp_M := (yX2_makeEmpty, cX2_makeEmpty, 2, some .int)
theorem okX2_makeEmpty : sp_okV mX2_makeEmpty 0 := ⟨sp_inT (List.mem_of_getElem? (i := 414) (by decide +kernel)) (by decide +kernel), sp_inT (List.mem_of_getElem? (i := 65) (by decide +kernel)) (by decide +kernel), ⟨sp_inT (List.mem_of_getElem? (i := 412) (by decide +kernel)) (by decide +kernel), sp_inT (List.mem_of_getElem? (i := 413) (by decide +kernel)) (by decide +kernel)⟩, ⟨by decide +kernel, by decide +kernel⟩, by decide +kernel, by decide⟩
abbrev mX2_readOrders : sp_M := (yX2_readOrders, cX2_readOrders, 2, some .int)
theorem okX2_readOrders : sp_okV mX2_readOrders 0 := ⟨sp_inT (List.mem_of_getElem? (i := 422) (by decide +kernel)) (by decide +kernel), sp_inT (List.mem_of_getElem? (i := 65) (by decide +kernel)) (by decide +kernel), ⟨sp_inT (List.mem_of_getElem? (i := 420) (by decide +kernel)) (by decide +kernel), sp_inT (List.mem_of_getElem? (i := 421) (by decide +kernel)) (by decide +kernel)⟩, ⟨by decide +kernel, by decide +kernel⟩, by decide +kernel, by decide⟩
abbrev mX2_readOrder : sp_M := (yX2_readOrder, cX2_readOrder, 4, some .int)
theorem okX2_readOrder : sp_okV mX2_readOrder 0 := ⟨sp_inT (List.mem_of_getElem? (i := 437) (by decide +kernel)) (by decide +kernel), sp_inT (List.mem_of_getElem? (i := 65) (by decide +kernel)) (by decide +kernel), ⟨sp_inT (List.mem_of_getElem? (i := 436) (by decide +kernel)) (by decide +kernel), sp_inT (List.mem_of_getElem? (i := 6) (by decide +kernel)) (by decide +kernel)⟩, ⟨by decide +kernel, by decide +kernel⟩, by decide +kernel, by decide⟩
abbrev mX2_isAsTold : sp_M := (yX2_isAsTold, cX2_isAsTold, 5, some .boolean)
theorem okX2_isAsTold : sp_okV mX2_isAsTold 2 := ⟨sp_inT (List.mem_of_getElem? (i := 511) (by decide +kernel)) (by decide +kernel), sp_inT (List.mem_of_getElem? (i := 65) (by decide +kernel)) (by decide +kernel), ⟨sp_inT (List.mem_of_getElem? (i := 510) (by decide +kernel)) (by decide +kernel), sp_inT (List.mem_of_getElem? (i := 10) (by decide +kernel)) (by decide +kernel)⟩, ⟨by decide +kernel, by decide +kernel⟩, by decide +kernel, by decide⟩
abbrev mX2_readPiece : sp_M := (yX2_readPiece, cX2_readPiece, 1, none)
theorem okX2_readPiece : sp_okV mX2_readPiece 0 := ⟨sp_inT (List.mem_of_getElem? (i := 426) (by decide +kernel)) (by decide +kernel), sp_inT (List.mem_of_getElem? (i := 65) (by decide +kernel)) (by decide +kernel), ⟨sp_inT (List.mem_of_getElem? (i := 425) (by decide +kernel)) (by decide +kernel), sp_inT (List.mem_of_getElem? (i := 5) (by decide +kernel)) (by decide +kernel)⟩, ⟨by decide +kernel, by decide +kernel⟩, by decide +kernel, by decide⟩
abbrev mX2_isLetter : sp_M := (yX2_isLetter, cX2_isLetter, 1, some .boolean)
theorem okX2_isLetter : sp_okS mX2_isLetter 1 := ⟨sp_inT (List.mem_of_getElem? (i := 429) (by decide +kernel)) (by decide +kernel), sp_inT (List.mem_of_getElem? (i := 65) (by decide +kernel)) (by decide +kernel), sp_inT (List.mem_of_getElem? (i := 428) (by decide +kernel)) (by decide +kernel), ⟨by decide +kernel, by decide +kernel⟩, by decide +kernel, by decide⟩
abbrev mX2_isFigure : sp_M := (yX2_isFigure, cX2_isFigure, 1, some .boolean)
theorem okX2_isFigure : sp_okS mX2_isFigure 1 := ⟨sp_inT (List.mem_of_getElem? (i := 433) (by decide +kernel)) (by decide +kernel), sp_inT (List.mem_of_getElem? (i := 65) (by decide +kernel)) (by decide +kernel), sp_inT (List.mem_of_getElem? (i := 432) (by decide +kernel)) (by decide +kernel), ⟨by decide +kernel, by decide +kernel⟩, by decide +kernel, by decide⟩
abbrev mX2_orderHere : sp_M := (yX2_orderHere, cX2_orderHere, 2, some .int)
theorem okX2_orderHere : sp_okV mX2_orderHere 0 := ⟨sp_inT (List.mem_of_getElem? (i := 441) (by decide +kernel)) (by decide +kernel), sp_inT (List.mem_of_getElem? (i := 65) (by decide +kernel)) (by decide +kernel), ⟨sp_inT (List.mem_of_getElem? (i := 440) (by decide +kernel)) (by decide +kernel), sp_inT (List.mem_of_getElem? (i := 7) (by decide +kernel)) (by decide +kernel)⟩, ⟨by decide +kernel, by decide +kernel⟩, by decide +kernel, by decide⟩
abbrev mX2_wordOf : sp_M := (yX2_wordOf, cX2_wordOf, 1, some (.object "java/lang/String"))
theorem okX2_wordOf : sp_okS mX2_wordOf 1 := ⟨sp_inT (List.mem_of_getElem? (i := 444) (by decide +kernel)) (by decide +kernel), sp_inT (List.mem_of_getElem? (i := 65) (by decide +kernel)) (by decide +kernel), sp_inT (List.mem_of_getElem? (i := 443) (by decide +kernel)) (by decide +kernel), ⟨by decide +kernel, by decide +kernel⟩, by decide +kernel, by decide⟩
abbrev mX2_isHere : sp_M := (yX2_isHere, cX2_isHere, 3, some .boolean)
theorem okX2_isHere : sp_okV mX2_isHere 1 := ⟨sp_inT (List.mem_of_getElem? (i := 453) (by decide +kernel)) (by decide +kernel), sp_inT (List.mem_of_getElem? (i := 65) (by decide +kernel)) (by decide +kernel), ⟨sp_inT (List.mem_of_getElem? (i := 452) (by decide +kernel)) (by decide +kernel), sp_inT (List.mem_of_getElem? (i := 8) (by decide +kernel)) (by decide +kernel)⟩, ⟨by decide +kernel, by decide +kernel⟩, by decide +kernel, by decide⟩
abbrev mX2_numberHere : sp_M := (yX2_numberHere, cX2_numberHere, 3, some .int)
theorem okX2_numberHere : sp_okV mX2_numberHere 0 := ⟨sp_inT (List.mem_of_getElem? (i := 507) (by decide +kernel)) (by decide +kernel), sp_inT (List.mem_of_getElem? (i := 65) (by decide +kernel)) (by decide +kernel), ⟨sp_inT (List.mem_of_getElem? (i := 506) (by decide +kernel)) (by decide +kernel), sp_inT (List.mem_of_getElem? (i := 9) (by decide +kernel)) (by decide +kernel)⟩, ⟨by decide +kernel, by decide +kernel⟩, by decide +kernel, by decide⟩
abbrev mX2_carryOut : sp_M := (yX2_carryOut, cX2_carryOut, 6, none)
theorem okX2_carryOut : sp_okV mX2_carryOut 2 := ⟨sp_inT (List.mem_of_getElem? (i := 520) (by decide +kernel)) (by decide +kernel), sp_inT (List.mem_of_getElem? (i := 65) (by decide +kernel)) (by decide +kernel), ⟨sp_inT (List.mem_of_getElem? (i := 518) (by decide +kernel)) (by decide +kernel), sp_inT (List.mem_of_getElem? (i := 519) (by decide +kernel)) (by decide +kernel)⟩, ⟨by decide +kernel, by decide +kernel⟩, by decide +kernel, by decide⟩
abbrev mX3_init : sp_M := (yX3_init, cX3_init, 1, none)
abbrev mX3_sortBlocks : sp_M := (yX3_sortBlocks, cX3_sortBlocks, 5, none)
theorem okX3_sortBlocks : sp_okV mX3_sortBlocks 2 := ⟨sp_inT (List.mem_of_getElem? (i := 380) (by decide +kernel)) (by decide +kernel), sp_inT (List.mem_of_getElem? (i := 63) (by decide +kernel)) (by decide +kernel), ⟨sp_inT (List.mem_of_getElem? (i := 378) (by decide +kernel)) (by decide +kernel), sp_inT (List.mem_of_getElem? (i := 379) (by decide +kernel)) (by decide +kernel)⟩, ⟨by decide +kernel, by decide +kernel⟩, by decide +kernel, by decide⟩
abbrev mX3_keyOf : sp_M := (yX3_keyOf, cX3_keyOf, 5, some .int)
theorem okX3_keyOf : sp_okS mX3_keyOf 3 := ⟨sp_inT (List.mem_of_getElem? (i := 383) (by decide +kernel)) (by decide +kernel), sp_inT (List.mem_of_getElem? (i := 63) (by decide +kernel)) (by decide +kernel), sp_inT (List.mem_of_getElem? (i := 382) (by decide +kernel)) (by decide +kernel), ⟨by decide +kernel, by decide +kernel⟩, by decide +kernel, by decide⟩
abbrev mX3_styleWithKey : sp_M := (yX3_styleWithKey, cX3_styleWithKey, 3, some .int)
theorem okX3_styleWithKey : sp_okV mX3_styleWithKey 1 := ⟨sp_inT (List.mem_of_getElem? (i := 388) (by decide +kernel)) (by decide +kernel), sp_inT (List.mem_of_getElem? (i := 63) (by decide +kernel)) (by decide +kernel), ⟨sp_inT (List.mem_of_getElem? (i := 387) (by decide +kernel)) (by decide +kernel), sp_inT (List.mem_of_getElem? (i := 3) (by decide +kernel)) (by decide +kernel)⟩, ⟨by decide +kernel, by decide +kernel⟩, by decide +kernel, by decide⟩
abbrev mX3_blocksOf : sp_M := (yX3_blocksOf, cX3_blocksOf, 4, some .int)
theorem okX3_blocksOf : sp_okV mX3_blocksOf 1 := ⟨sp_inT (List.mem_of_getElem? (i := 540) (by decide +kernel)) (by decide +kernel), sp_inT (List.mem_of_getElem? (i := 63) (by decide +kernel)) (by decide +kernel), ⟨sp_inT (List.mem_of_getElem? (i := 538) (by decide +kernel)) (by decide +kernel), sp_inT (List.mem_of_getElem? (i := 539) (by decide +kernel)) (by decide +kernel)⟩, ⟨by decide +kernel, by decide +kernel⟩, by decide +kernel, by decide⟩
abbrev mX3_votersOf : sp_M := (yX3_votersOf, cX3_votersOf, 5, some .int)
theorem okX3_votersOf : sp_okV mX3_votersOf 2 := ⟨sp_inT (List.mem_of_getElem? (i := 544) (by decide +kernel)) (by decide +kernel), sp_inT (List.mem_of_getElem? (i := 63) (by decide +kernel)) (by decide +kernel), ⟨sp_inT (List.mem_of_getElem? (i := 542) (by decide +kernel)) (by decide +kernel), sp_inT (List.mem_of_getElem? (i := 543) (by decide +kernel)) (by decide +kernel)⟩, ⟨by decide +kernel, by decide +kernel⟩, by decide +kernel, by decide⟩
abbrev mX3_partsOf : sp_M := (yX3_partsOf, cX3_partsOf, 4, some .int)
theorem okX3_partsOf : sp_okV mX3_partsOf 1 := ⟨sp_inT (List.mem_of_getElem? (i := 548) (by decide +kernel)) (by decide +kernel), sp_inT (List.mem_of_getElem? (i := 63) (by decide +kernel)) (by decide +kernel), ⟨sp_inT (List.mem_of_getElem? (i := 546) (by decide +kernel)) (by decide +kernel), sp_inT (List.mem_of_getElem? (i := 547) (by decide +kernel)) (by decide +kernel)⟩, ⟨by decide +kernel, by decide +kernel⟩, by decide +kernel, by decide⟩
abbrev mX3_visitPart : sp_M := (yX3_visitPart, cX3_visitPart, 6, none)
theorem okX3_visitPart : sp_okV mX3_visitPart 1 := ⟨sp_inT (List.mem_of_getElem? (i := 552) (by decide +kernel)) (by decide +kernel), sp_inT (List.mem_of_getElem? (i := 63) (by decide +kernel)) (by decide +kernel), ⟨sp_inT (List.mem_of_getElem? (i := 551) (by decide +kernel)) (by decide +kernel), sp_inT (List.mem_of_getElem? (i := 12) (by decide +kernel)) (by decide +kernel)⟩, ⟨by decide +kernel, by decide +kernel⟩, by decide +kernel, by decide⟩
abbrev mX3_neighbour : sp_M := (yX3_neighbour, cX3_neighbour, 3, some .int)
theorem okX3_neighbour : sp_okS mX3_neighbour 2 := ⟨sp_inT (List.mem_of_getElem? (i := 555) (by decide +kernel)) (by decide +kernel), sp_inT (List.mem_of_getElem? (i := 63) (by decide +kernel)) (by decide +kernel), sp_inT (List.mem_of_getElem? (i := 554) (by decide +kernel)) (by decide +kernel), ⟨by decide +kernel, by decide +kernel⟩, by decide +kernel, by decide⟩
abbrev mX3_unlikePairs : sp_M := (yX3_unlikePairs, cX3_unlikePairs, 5, some .int)
theorem okX3_unlikePairs : sp_okV mX3_unlikePairs 0 := ⟨sp_inT (List.mem_of_getElem? (i := 573) (by decide +kernel)) (by decide +kernel), sp_inT (List.mem_of_getElem? (i := 63) (by decide +kernel)) (by decide +kernel), ⟨sp_inT (List.mem_of_getElem? (i := 571) (by decide +kernel)) (by decide +kernel), sp_inT (List.mem_of_getElem? (i := 572) (by decide +kernel)) (by decide +kernel)⟩, ⟨by decide +kernel, by decide +kernel⟩, by decide +kernel, by decide⟩
abbrev mX3_pairsOf : sp_M := (yX3_pairsOf, cX3_pairsOf, 7, some .int)
theorem okX3_pairsOf : sp_okV mX3_pairsOf 2 := ⟨sp_inT (List.mem_of_getElem? (i := 581) (by decide +kernel)) (by decide +kernel), sp_inT (List.mem_of_getElem? (i := 63) (by decide +kernel)) (by decide +kernel), ⟨sp_inT (List.mem_of_getElem? (i := 579) (by decide +kernel)) (by decide +kernel), sp_inT (List.mem_of_getElem? (i := 580) (by decide +kernel)) (by decide +kernel)⟩, ⟨by decide +kernel, by decide +kernel⟩, by decide +kernel, by decide⟩
abbrev mX3_arePair : sp_M := (yX3_arePair, cX3_arePair, 4, some .boolean)
theorem okX3_arePair : sp_okS mX3_arePair 4 := ⟨sp_inT (List.mem_of_getElem? (i := 584) (by decide +kernel)) (by decide +kernel), sp_inT (List.mem_of_getElem? (i := 63) (by decide +kernel)) (by decide +kernel), sp_inT (List.mem_of_getElem? (i := 583) (by decide +kernel)) (by decide +kernel), ⟨by decide +kernel, by decide +kernel⟩, by decide +kernel, by decide⟩
abbrev mX3_fewestVoters : sp_M := (yX3_fewestVoters, cX3_fewestVoters, 6, some .int)
theorem okX3_fewestVoters : sp_okV mX3_fewestVoters 1 := ⟨sp_inT (List.mem_of_getElem? (i := 600) (by decide +kernel)) (by decide +kernel), sp_inT (List.mem_of_getElem? (i := 63) (by decide +kernel)) (by decide +kernel), ⟨sp_inT (List.mem_of_getElem? (i := 598) (by decide +kernel)) (by decide +kernel), sp_inT (List.mem_of_getElem? (i := 599) (by decide +kernel)) (by decide +kernel)⟩, ⟨by decide +kernel, by decide +kernel⟩, by decide +kernel, by decide⟩
abbrev mX3_mostParts : sp_M := (yX3_mostParts, cX3_mostParts, 5, some .int)
theorem okX3_mostParts : sp_okV mX3_mostParts 0 := ⟨sp_inT (List.mem_of_getElem? (i := 605) (by decide +kernel)) (by decide +kernel), sp_inT (List.mem_of_getElem? (i := 63) (by decide +kernel)) (by decide +kernel), ⟨sp_inT (List.mem_of_getElem? (i := 603) (by decide +kernel)) (by decide +kernel), sp_inT (List.mem_of_getElem? (i := 604) (by decide +kernel)) (by decide +kernel)⟩, ⟨by decide +kernel, by decide +kernel⟩, by decide +kernel, by decide⟩
abbrev mX4_init : sp_M := (yX4_init, cX4_init, 2, none)
abbrev mX4_copyFrom : sp_M := (yX4_copyFrom, cX4_copyFrom, 2, none)
theorem okX4_copyFrom : sp_okV mX4_copyFrom 1 := ⟨sp_inT (List.mem_of_getElem? (i := 276) (by decide +kernel)) (by decide +kernel), sp_inT (List.mem_of_getElem? (i := 61) (by decide +kernel)) (by decide +kernel), ⟨sp_inT (List.mem_of_getElem? (i := 274) (by decide +kernel)) (by decide +kernel), sp_inT (List.mem_of_getElem? (i := 275) (by decide +kernel)) (by decide +kernel)⟩, ⟨by decide +kernel, by decide +kernel⟩, by decide +kernel, by decide⟩
abbrev mX4_isOn : sp_M := (yX4_isOn, cX4_isOn, 2, some .boolean)
theorem okX4_isOn : sp_okV mX4_isOn 1 := ⟨sp_inT (List.mem_of_getElem? (i := 592) (by decide +kernel)) (by decide +kernel), sp_inT (List.mem_of_getElem? (i := 61) (by decide +kernel)) (by decide +kernel), ⟨sp_inT (List.mem_of_getElem? (i := 590) (by decide +kernel)) (by decide +kernel), sp_inT (List.mem_of_getElem? (i := 591) (by decide +kernel)) (by decide +kernel)⟩, ⟨by decide +kernel, by decide +kernel⟩, by decide +kernel, by decide⟩
abbrev mX4_districtOf : sp_M := (yX4_districtOf, cX4_districtOf, 3, some .int)
theorem okX4_districtOf : sp_okV mX4_districtOf 2 := ⟨sp_inT (List.mem_of_getElem? (i := 353) (by decide +kernel)) (by decide +kernel), sp_inT (List.mem_of_getElem? (i := 61) (by decide +kernel)) (by decide +kernel), ⟨sp_inT (List.mem_of_getElem? (i := 351) (by decide +kernel)) (by decide +kernel), sp_inT (List.mem_of_getElem? (i := 352) (by decide +kernel)) (by decide +kernel)⟩, ⟨by decide +kernel, by decide +kernel⟩, by decide +kernel, by decide⟩
abbrev mX4_namesOf : sp_M := (yX4_namesOf, cX4_namesOf, 3, some .int)
theorem okX4_namesOf : sp_okV mX4_namesOf 2 := ⟨sp_inT (List.mem_of_getElem? (i := 647) (by decide +kernel)) (by decide +kernel), sp_inT (List.mem_of_getElem? (i := 61) (by decide +kernel)) (by decide +kernel), ⟨sp_inT (List.mem_of_getElem? (i := 645) (by decide +kernel)) (by decide +kernel), sp_inT (List.mem_of_getElem? (i := 646) (by decide +kernel)) (by decide +kernel)⟩, ⟨by decide +kernel, by decide +kernel⟩, by decide +kernel, by decide⟩
abbrev mX4_heightAt : sp_M := (yX4_heightAt, cX4_heightAt, 3, some .int)
theorem okX4_heightAt : sp_okV mX4_heightAt 2 := ⟨sp_inT (List.mem_of_getElem? (i := 643) (by decide +kernel)) (by decide +kernel), sp_inT (List.mem_of_getElem? (i := 61) (by decide +kernel)) (by decide +kernel), ⟨sp_inT (List.mem_of_getElem? (i := 641) (by decide +kernel)) (by decide +kernel), sp_inT (List.mem_of_getElem? (i := 642) (by decide +kernel)) (by decide +kernel)⟩, ⟨by decide +kernel, by decide +kernel⟩, by decide +kernel, by decide⟩
abbrev mX4_switchLayer : sp_M := (yX4_switchLayer, cX4_switchLayer, 4, some .int)
theorem okX4_switchLayer : sp_okV mX4_switchLayer 2 := ⟨sp_inT (List.mem_of_getElem? (i := 286) (by decide +kernel)) (by decide +kernel), sp_inT (List.mem_of_getElem? (i := 61) (by decide +kernel)) (by decide +kernel), ⟨sp_inT (List.mem_of_getElem? (i := 284) (by decide +kernel)) (by decide +kernel), sp_inT (List.mem_of_getElem? (i := 285) (by decide +kernel)) (by decide +kernel)⟩, ⟨by decide +kernel, by decide +kernel⟩, by decide +kernel, by decide⟩
abbrev mX4_setNames : sp_M := (yX4_setNames, cX4_setNames, 5, some .int)
theorem okX4_setNames : sp_okV mX4_setNames 3 := ⟨sp_inT (List.mem_of_getElem? (i := 315) (by decide +kernel)) (by decide +kernel), sp_inT (List.mem_of_getElem? (i := 61) (by decide +kernel)) (by decide +kernel), ⟨sp_inT (List.mem_of_getElem? (i := 313) (by decide +kernel)) (by decide +kernel), sp_inT (List.mem_of_getElem? (i := 314) (by decide +kernel)) (by decide +kernel)⟩, ⟨by decide +kernel, by decide +kernel⟩, by decide +kernel, by decide⟩
abbrev mX4_setVoters : sp_M := (yX4_setVoters, cX4_setVoters, 4, some .int)
theorem okX4_setVoters : sp_okV mX4_setVoters 2 := ⟨sp_inT (List.mem_of_getElem? (i := 323) (by decide +kernel)) (by decide +kernel), sp_inT (List.mem_of_getElem? (i := 61) (by decide +kernel)) (by decide +kernel), ⟨sp_inT (List.mem_of_getElem? (i := 321) (by decide +kernel)) (by decide +kernel), sp_inT (List.mem_of_getElem? (i := 322) (by decide +kernel)) (by decide +kernel)⟩, ⟨by decide +kernel, by decide +kernel⟩, by decide +kernel, by decide⟩
abbrev mX4_setDistrict : sp_M := (yX4_setDistrict, cX4_setDistrict, 5, some .int)
theorem okX4_setDistrict : sp_okV mX4_setDistrict 3 := ⟨sp_inT (List.mem_of_getElem? (i := 307) (by decide +kernel)) (by decide +kernel), sp_inT (List.mem_of_getElem? (i := 61) (by decide +kernel)) (by decide +kernel), ⟨sp_inT (List.mem_of_getElem? (i := 305) (by decide +kernel)) (by decide +kernel), sp_inT (List.mem_of_getElem? (i := 306) (by decide +kernel)) (by decide +kernel)⟩, ⟨by decide +kernel, by decide +kernel⟩, by decide +kernel, by decide⟩
abbrev mX4_putRectangle : sp_M := (yX4_putRectangle, cX4_putRectangle, 8, some .int)
theorem okX4_putRectangle : sp_okV mX4_putRectangle 4 := ⟨sp_inT (List.mem_of_getElem? (i := 303) (by decide +kernel)) (by decide +kernel), sp_inT (List.mem_of_getElem? (i := 61) (by decide +kernel)) (by decide +kernel), ⟨sp_inT (List.mem_of_getElem? (i := 301) (by decide +kernel)) (by decide +kernel), sp_inT (List.mem_of_getElem? (i := 302) (by decide +kernel)) (by decide +kernel)⟩, ⟨by decide +kernel, by decide +kernel⟩, by decide +kernel, by decide⟩
abbrev mX4_drawLayer : sp_M := (yX4_drawLayer, cX4_drawLayer, 8, some .int)
theorem okX4_drawLayer : sp_okV mX4_drawLayer 3 := ⟨sp_inT (List.mem_of_getElem? (i := 332) (by decide +kernel)) (by decide +kernel), sp_inT (List.mem_of_getElem? (i := 61) (by decide +kernel)) (by decide +kernel), ⟨sp_inT (List.mem_of_getElem? (i := 330) (by decide +kernel)) (by decide +kernel), sp_inT (List.mem_of_getElem? (i := 331) (by decide +kernel)) (by decide +kernel)⟩, ⟨by decide +kernel, by decide +kernel⟩, by decide +kernel, by decide⟩
abbrev mX4_followMap : sp_M := (yX4_followMap, cX4_followMap, 7, some .int)
theorem okX4_followMap : sp_okV mX4_followMap 4 := ⟨sp_inT (List.mem_of_getElem? (i := 346) (by decide +kernel)) (by decide +kernel), sp_inT (List.mem_of_getElem? (i := 61) (by decide +kernel)) (by decide +kernel), ⟨sp_inT (List.mem_of_getElem? (i := 344) (by decide +kernel)) (by decide +kernel), sp_inT (List.mem_of_getElem? (i := 345) (by decide +kernel)) (by decide +kernel)⟩, ⟨by decide +kernel, by decide +kernel⟩, by decide +kernel, by decide⟩
abbrev mX4_followed : sp_M := (yX4_followed, cX4_followed, 6, some .int)
theorem okX4_followed : sp_okS mX4_followed 5 := ⟨sp_inT (List.mem_of_getElem? (i := 349) (by decide +kernel)) (by decide +kernel), sp_inT (List.mem_of_getElem? (i := 61) (by decide +kernel)) (by decide +kernel), sp_inT (List.mem_of_getElem? (i := 348) (by decide +kernel)) (by decide +kernel), ⟨by decide +kernel, by decide +kernel⟩, by decide +kernel, by decide⟩
abbrev mX4_leaderIn : sp_M := (yX4_leaderIn, cX4_leaderIn, 6, some .int)
theorem okX4_leaderIn : sp_okV mX4_leaderIn 2 := ⟨sp_inT (List.mem_of_getElem? (i := 704) (by decide +kernel)) (by decide +kernel), sp_inT (List.mem_of_getElem? (i := 61) (by decide +kernel)) (by decide +kernel), ⟨sp_inT (List.mem_of_getElem? (i := 702) (by decide +kernel)) (by decide +kernel), sp_inT (List.mem_of_getElem? (i := 703) (by decide +kernel)) (by decide +kernel)⟩, ⟨by decide +kernel, by decide +kernel⟩, by decide +kernel, by decide⟩
abbrev mX4_nextLeader : sp_M := (yX4_nextLeader, cX4_nextLeader, 4, some .int)
theorem okX4_nextLeader : sp_okV mX4_nextLeader 3 := ⟨sp_inT (List.mem_of_getElem? (i := 708) (by decide +kernel)) (by decide +kernel), sp_inT (List.mem_of_getElem? (i := 61) (by decide +kernel)) (by decide +kernel), ⟨sp_inT (List.mem_of_getElem? (i := 707) (by decide +kernel)) (by decide +kernel), sp_inT (List.mem_of_getElem? (i := 23) (by decide +kernel)) (by decide +kernel)⟩, ⟨by decide +kernel, by decide +kernel⟩, by decide +kernel, by decide⟩
abbrev mX4_ledBy : sp_M := (yX4_ledBy, cX4_ledBy, 8, some .int)
theorem okX4_ledBy : sp_okV mX4_ledBy 4 := ⟨sp_inT (List.mem_of_getElem? (i := 720) (by decide +kernel)) (by decide +kernel), sp_inT (List.mem_of_getElem? (i := 61) (by decide +kernel)) (by decide +kernel), ⟨sp_inT (List.mem_of_getElem? (i := 718) (by decide +kernel)) (by decide +kernel), sp_inT (List.mem_of_getElem? (i := 719) (by decide +kernel)) (by decide +kernel)⟩, ⟨by decide +kernel, by decide +kernel⟩, by decide +kernel, by decide⟩
theorem flX4_9 : sp_fl RX4 9 4 0 := ⟨RX4, TX4, 4, rfl, by decide, sp_inT (List.mem_of_getElem? (i := 88) (by decide +kernel)) (by decide +kernel)⟩
theorem flX3_46 : sp_fn RX3 46 4 0 := ⟨RX4, TX4, 4, RX5, rfl, by decide, List.mem_of_getElem? (i := 89) (by decide +kernel)⟩
theorem flX5_113 : sp_fn RX5 113 4 0 := ⟨RX4, TX4, 4, RX5, rfl, by decide, List.mem_of_getElem? (i := 90) (by decide +kernel)⟩
theorem flX4_15 : sp_fl RX4 15 4 1 := ⟨RX4, TX4, 4, rfl, by decide, sp_inT (List.mem_of_getElem? (i := 91) (by decide +kernel)) (by decide +kernel)⟩
theorem flX4_18 : sp_fl RX4 18 4 2 := ⟨RX4, TX4, 4, rfl, by decide, sp_inT (List.mem_of_getElem? (i := 92) (by decide +kernel)) (by decide +kernel)⟩
theorem flX4_21 : sp_fl RX4 21 4 3 := ⟨RX4, TX4, 4, rfl, by decide, sp_inT (List.mem_of_getElem? (i := 93) (by decide +kernel)) (by decide +kernel)⟩
theorem flX5_162 : sp_fn RX5 162 4 3 := ⟨RX4, TX4, 4, RX5, rfl, by decide, List.mem_of_getElem? (i := 94) (by decide +kernel)⟩
theorem flX1_11 : sp_fl RX1 11 1 0 := ⟨RX1, TX1, 3, rfl, by decide, sp_inT (List.mem_of_getElem? (i := 114) (by decide +kernel)) (by decide +kernel)⟩
theorem flX1_15 : sp_fl RX1 15 1 1 := ⟨RX1, TX1, 3, rfl, by decide, sp_inT (List.mem_of_getElem? (i := 115) (by decide +kernel)) (by decide +kernel)⟩
theorem flX1_19 : sp_fl RX1 19 1 2 := ⟨RX1, TX1, 3, rfl, by decide, sp_inT (List.mem_of_getElem? (i := 116) (by decide +kernel)) (by decide +kernel)⟩
theorem flX5_103 : sp_fn RX5 103 1 2 := ⟨RX1, TX1, 3, RX5, rfl, by decide, List.mem_of_getElem? (i := 117) (by decide +kernel)⟩
theorem flX3_9 : sp_fl RX3 9 3 0 := ⟨RX3, TX3, 6, rfl, by decide, sp_inT (List.mem_of_getElem? (i := 131) (by decide +kernel)) (by decide +kernel)⟩
theorem flX3_15 : sp_fl RX3 15 3 1 := ⟨RX3, TX3, 6, rfl, by decide, sp_inT (List.mem_of_getElem? (i := 132) (by decide +kernel)) (by decide +kernel)⟩
theorem flX5_120 : sp_fn RX5 120 3 1 := ⟨RX3, TX3, 6, RX5, rfl, by decide, List.mem_of_getElem? (i := 133) (by decide +kernel)⟩
theorem flX3_18 : sp_fl RX3 18 3 2 := ⟨RX3, TX3, 6, rfl, by decide, sp_inT (List.mem_of_getElem? (i := 134) (by decide +kernel)) (by decide +kernel)⟩
theorem flX5_170 : sp_fn RX5 170 3 2 := ⟨RX3, TX3, 6, RX5, rfl, by decide, List.mem_of_getElem? (i := 135) (by decide +kernel)⟩
theorem flX3_21 : sp_fl RX3 21 3 3 := ⟨RX3, TX3, 6, rfl, by decide, sp_inT (List.mem_of_getElem? (i := 136) (by decide +kernel)) (by decide +kernel)⟩
theorem flX3_24 : sp_fl RX3 24 3 4 := ⟨RX3, TX3, 6, rfl, by decide, sp_inT (List.mem_of_getElem? (i := 137) (by decide +kernel)) (by decide +kernel)⟩
theorem flX3_28 : sp_fl RX3 28 3 5 := ⟨RX3, TX3, 6, rfl, by decide, sp_inT (List.mem_of_getElem? (i := 138) (by decide +kernel)) (by decide +kernel)⟩
theorem flX5_148 : sp_fn RX5 148 3 5 := ⟨RX3, TX3, 6, RX5, rfl, by decide, List.mem_of_getElem? (i := 139) (by decide +kernel)⟩
theorem flX0_9 : sp_fl RX0 9 0 0 := ⟨RX0, TX0, 10, rfl, by decide, sp_inT (List.mem_of_getElem? (i := 160) (by decide +kernel)) (by decide +kernel)⟩
theorem flX5_267 : sp_fn RX5 267 0 0 := ⟨RX0, TX0, 10, RX5, rfl, by decide, List.mem_of_getElem? (i := 161) (by decide +kernel)⟩
theorem flX0_15 : sp_fl RX0 15 0 1 := ⟨RX0, TX0, 10, rfl, by decide, sp_inT (List.mem_of_getElem? (i := 162) (by decide +kernel)) (by decide +kernel)⟩
theorem flX5_270 : sp_fn RX5 270 0 1 := ⟨RX0, TX0, 10, RX5, rfl, by decide, List.mem_of_getElem? (i := 163) (by decide +kernel)⟩
theorem flX0_18 : sp_fl RX0 18 0 2 := ⟨RX0, TX0, 10, rfl, by decide, sp_inT (List.mem_of_getElem? (i := 164) (by decide +kernel)) (by decide +kernel)⟩
theorem flX5_201 : sp_fn RX5 201 0 2 := ⟨RX0, TX0, 10, RX5, rfl, by decide, List.mem_of_getElem? (i := 165) (by decide +kernel)⟩
theorem flX0_21 : sp_fl RX0 21 0 3 := ⟨RX0, TX0, 10, rfl, by decide, sp_inT (List.mem_of_getElem? (i := 166) (by decide +kernel)) (by decide +kernel)⟩
theorem flX0_25 : sp_fl RX0 25 0 4 := ⟨RX0, TX0, 10, rfl, by decide, sp_inT (List.mem_of_getElem? (i := 167) (by decide +kernel)) (by decide +kernel)⟩
theorem flX5_214 : sp_fn RX5 214 0 4 := ⟨RX0, TX0, 10, RX5, rfl, by decide, List.mem_of_getElem? (i := 168) (by decide +kernel)⟩
theorem flX0_28 : sp_fl RX0 28 0 5 := ⟨RX0, TX0, 10, rfl, by decide, sp_inT (List.mem_of_getElem? (i := 169) (by decide +kernel)) (by decide +kernel)⟩
theorem flX5_224 : sp_fn RX5 224 0 5 := ⟨RX0, TX0, 10, RX5, rfl, by decide, List.mem_of_getElem? (i := 170) (by decide +kernel)⟩
theorem flX0_31 : sp_fl RX0 31 0 6 := ⟨RX0, TX0, 10, rfl, by decide, sp_inT (List.mem_of_getElem? (i := 171) (by decide +kernel)) (by decide +kernel)⟩
theorem flX5_211 : sp_fn RX5 211 0 6 := ⟨RX0, TX0, 10, RX5, rfl, by decide, List.mem_of_getElem? (i := 172) (by decide +kernel)⟩
theorem flX0_34 : sp_fl RX0 34 0 7 := ⟨RX0, TX0, 10, rfl, by decide, sp_inT (List.mem_of_getElem? (i := 173) (by decide +kernel)) (by decide +kernel)⟩
theorem flX5_273 : sp_fn RX5 273 0 7 := ⟨RX0, TX0, 10, RX5, rfl, by decide, List.mem_of_getElem? (i := 174) (by decide +kernel)⟩
theorem flX0_37 : sp_fl RX0 37 0 8 := ⟨RX0, TX0, 10, rfl, by decide, sp_inT (List.mem_of_getElem? (i := 175) (by decide +kernel)) (by decide +kernel)⟩
theorem flX0_40 : sp_fl RX0 40 0 9 := ⟨RX0, TX0, 10, rfl, by decide, sp_inT (List.mem_of_getElem? (i := 176) (by decide +kernel)) (by decide +kernel)⟩
theorem flX5_220 : sp_fn RX5 220 0 9 := ⟨RX0, TX0, 10, RX5, rfl, by decide, List.mem_of_getElem? (i := 177) (by decide +kernel)⟩
theorem flX2_11 : sp_fl RX2 11 2 0 := ⟨RX2, TX2, 7, rfl, by decide, sp_inT (List.mem_of_getElem? (i := 205) (by decide +kernel)) (by decide +kernel)⟩
theorem flX2_15 : sp_fl RX2 15 2 1 := ⟨RX2, TX2, 7, rfl, by decide, sp_inT (List.mem_of_getElem? (i := 206) (by decide +kernel)) (by decide +kernel)⟩
theorem flX5_264 : sp_fn RX5 264 2 1 := ⟨RX2, TX2, 7, RX5, rfl, by decide, List.mem_of_getElem? (i := 207) (by decide +kernel)⟩
theorem flX2_19 : sp_fl RX2 19 2 2 := ⟨RX2, TX2, 7, rfl, by decide, sp_inT (List.mem_of_getElem? (i := 208) (by decide +kernel)) (by decide +kernel)⟩
theorem flX2_23 : sp_fl RX2 23 2 3 := ⟨RX2, TX2, 7, rfl, by decide, sp_inT (List.mem_of_getElem? (i := 209) (by decide +kernel)) (by decide +kernel)⟩
theorem flX5_143 : sp_fn RX5 143 2 3 := ⟨RX2, TX2, 7, RX5, rfl, by decide, List.mem_of_getElem? (i := 210) (by decide +kernel)⟩
theorem flX2_26 : sp_fl RX2 26 2 4 := ⟨RX2, TX2, 7, rfl, by decide, sp_inT (List.mem_of_getElem? (i := 211) (by decide +kernel)) (by decide +kernel)⟩
theorem flX2_29 : sp_fl RX2 29 2 5 := ⟨RX2, TX2, 7, rfl, by decide, sp_inT (List.mem_of_getElem? (i := 212) (by decide +kernel)) (by decide +kernel)⟩
theorem flX2_32 : sp_fl RX2 32 2 6 := ⟨RX2, TX2, 7, rfl, by decide, sp_inT (List.mem_of_getElem? (i := 213) (by decide +kernel)) (by decide +kernel)⟩
theorem flX5_10 : sp_fl RX5 10 5 0 := ⟨RX5, TX5, 8, rfl, by decide, sp_inT (List.mem_of_getElem? (i := 230) (by decide +kernel)) (by decide +kernel)⟩
theorem flX5_19 : sp_fl RX5 19 5 1 := ⟨RX5, TX5, 8, rfl, by decide, sp_inT (List.mem_of_getElem? (i := 231) (by decide +kernel)) (by decide +kernel)⟩
theorem flX5_26 : sp_fl RX5 26 5 2 := ⟨RX5, TX5, 8, rfl, by decide, sp_inT (List.mem_of_getElem? (i := 232) (by decide +kernel)) (by decide +kernel)⟩
theorem flX5_33 : sp_fl RX5 33 5 3 := ⟨RX5, TX5, 8, rfl, by decide, sp_inT (List.mem_of_getElem? (i := 233) (by decide +kernel)) (by decide +kernel)⟩
theorem flX5_40 : sp_fl RX5 40 5 4 := ⟨RX5, TX5, 8, rfl, by decide, sp_inT (List.mem_of_getElem? (i := 234) (by decide +kernel)) (by decide +kernel)⟩
theorem flX5_44 : sp_fl RX5 44 5 5 := ⟨RX5, TX5, 8, rfl, by decide, sp_inT (List.mem_of_getElem? (i := 235) (by decide +kernel)) (by decide +kernel)⟩
theorem flX5_48 : sp_fl RX5 48 5 6 := ⟨RX5, TX5, 8, rfl, by decide, sp_inT (List.mem_of_getElem? (i := 236) (by decide +kernel)) (by decide +kernel)⟩
theorem flX5_51 : sp_fl RX5 51 5 7 := ⟨RX5, TX5, 8, rfl, by decide, sp_inT (List.mem_of_getElem? (i := 237) (by decide +kernel)) (by decide +kernel)⟩
theorem lkL_13 : Cond.methodLink RL 13 yX5_on ∈ sp_T := sp_inT (List.mem_of_getElem? (i := 255) (by decide +kernel)) (by decide +kernel)
theorem lkX5_54 : Cond.methodLink RX5 54 yX5_isLayer ∈ sp_T := sp_inT (List.mem_of_getElem? (i := 259) (by decide +kernel)) (by decide +kernel)
theorem lkX5_58 : Cond.methodLink RX5 58 yX5_within ∈ sp_T := sp_inT (List.mem_of_getElem? (i := 262) (by decide +kernel)) (by decide +kernel)
theorem lkX5_62 : Cond.methodLink RX5 62 yX5_refuseBad ∈ sp_T := sp_inT (List.mem_of_getElem? (i := 265) (by decide +kernel)) (by decide +kernel)
theorem lkX5_66 : Cond.methodLink RX5 66 yX1_keep ∈ sp_T := sp_inT (List.mem_of_getElem? (i := 269) (by decide +kernel)) (by decide +kernel)
theorem lkX1_23 : Cond.methodLink RX1 23 yX4_copyFrom ∈ sp_T := sp_inT (List.mem_of_getElem? (i := 273) (by decide +kernel)) (by decide +kernel)
theorem lkX5_70 : Cond.methodLink RX5 70 yX4_switchLayer ∈ sp_T := sp_inT (List.mem_of_getElem? (i := 283) (by decide +kernel)) (by decide +kernel)
theorem lkL_18 : Cond.methodLink RL 18 yX5_puts ∈ sp_T := sp_inT (List.mem_of_getElem? (i := 287) (by decide +kernel)) (by decide +kernel)
theorem lkX5_74 : Cond.methodLink RX5 74 yX5_isDistrict ∈ sp_T := sp_inT (List.mem_of_getElem? (i := 291) (by decide +kernel)) (by decide +kernel)
theorem lkX5_77 : Cond.methodLink RX5 77 yX5_isRectangle ∈ sp_T := sp_inT (List.mem_of_getElem? (i := 294) (by decide +kernel)) (by decide +kernel)
theorem lkX5_89 : Cond.methodLink RX5 89 yX5_isBlock ∈ sp_T := sp_inT (List.mem_of_getElem? (i := 297) (by decide +kernel)) (by decide +kernel)
theorem lkX5_81 : Cond.methodLink RX5 81 yX4_putRectangle ∈ sp_T := sp_inT (List.mem_of_getElem? (i := 300) (by decide +kernel)) (by decide +kernel)
theorem lkX4_38 : Cond.methodLink RX4 38 yX4_setDistrict ∈ sp_T := sp_inT (List.mem_of_getElem? (i := 304) (by decide +kernel)) (by decide +kernel)
theorem lkL_23 : Cond.methodLink RL 23 yX5_names ∈ sp_T := sp_inT (List.mem_of_getElem? (i := 308) (by decide +kernel)) (by decide +kernel)
theorem lkX5_85 : Cond.methodLink RX5 85 yX4_setNames ∈ sp_T := sp_inT (List.mem_of_getElem? (i := 312) (by decide +kernel)) (by decide +kernel)
theorem lkL_28 : Cond.methodLink RL 28 yX5_voters ∈ sp_T := sp_inT (List.mem_of_getElem? (i := 316) (by decide +kernel)) (by decide +kernel)
theorem lkX5_92 : Cond.methodLink RX5 92 yX4_setVoters ∈ sp_T := sp_inT (List.mem_of_getElem? (i := 320) (by decide +kernel)) (by decide +kernel)
theorem lkL_32 : Cond.methodLink RL 32 yX5_draw ∈ sp_T := sp_inT (List.mem_of_getElem? (i := 324) (by decide +kernel)) (by decide +kernel)
theorem kcX5_95 : Cond.constant RX5 95 (Int32.ofInt 999999) ∈ sp_T := sp_inT (List.mem_of_getElem? (i := 328) (by decide +kernel)) (by decide +kernel)
theorem lkX5_96 : Cond.methodLink RX5 96 yX4_drawLayer ∈ sp_T := sp_inT (List.mem_of_getElem? (i := 329) (by decide +kernel)) (by decide +kernel)
theorem kcX4_42 : Cond.constantLong RX4 42 (Int64.ofInt 1103515245) ∈ sp_T := sp_inT (List.mem_of_getElem? (i := 333) (by decide +kernel)) (by decide +kernel)
theorem kcX4_44 : Cond.constantLong RX4 44 (Int64.ofInt 12345) ∈ sp_T := sp_inT (List.mem_of_getElem? (i := 334) (by decide +kernel)) (by decide +kernel)
theorem kcX4_46 : Cond.constantLong RX4 46 (Int64.ofInt 2147483648) ∈ sp_T := sp_inT (List.mem_of_getElem? (i := 335) (by decide +kernel)) (by decide +kernel)
theorem kcX4_48 : Cond.constantLong RX4 48 (Int64.ofInt 65536) ∈ sp_T := sp_inT (List.mem_of_getElem? (i := 336) (by decide +kernel)) (by decide +kernel)
theorem kcX4_50 : Cond.constantLong RX4 50 (Int64.ofInt 1024) ∈ sp_T := sp_inT (List.mem_of_getElem? (i := 337) (by decide +kernel)) (by decide +kernel)
theorem kcX4_52 : Cond.constantLong RX4 52 (Int64.ofInt 30) ∈ sp_T := sp_inT (List.mem_of_getElem? (i := 338) (by decide +kernel)) (by decide +kernel)
theorem lkL_36 : Cond.methodLink RL 36 yX5_follows ∈ sp_T := sp_inT (List.mem_of_getElem? (i := 339) (by decide +kernel)) (by decide +kernel)
theorem lkX5_99 : Cond.methodLink RX5 99 yX4_followMap ∈ sp_T := sp_inT (List.mem_of_getElem? (i := 343) (by decide +kernel)) (by decide +kernel)
theorem lkX4_54 : Cond.methodLink RX4 54 yX4_followed ∈ sp_T := sp_inT (List.mem_of_getElem? (i := 347) (by decide +kernel)) (by decide +kernel)
theorem lkX4_31 : Cond.methodLink RX4 31 yX4_districtOf ∈ sp_T := sp_inT (List.mem_of_getElem? (i := 350) (by decide +kernel)) (by decide +kernel)
theorem lkL_40 : Cond.methodLink RL 40 yX5_undo ∈ sp_T := sp_inT (List.mem_of_getElem? (i := 357) (by decide +kernel)) (by decide +kernel)
theorem lkX5_106 : Cond.methodLink RX5 106 yX5_refuseNo ∈ sp_T := sp_inT (List.mem_of_getElem? (i := 361) (by decide +kernel)) (by decide +kernel)
theorem lkX5_109 : Cond.methodLink RX5 109 yX1_takeBack ∈ sp_T := sp_inT (List.mem_of_getElem? (i := 365) (by decide +kernel)) (by decide +kernel)
theorem lkL_45 : Cond.methodLink RL 45 yX5_of ∈ sp_T := sp_inT (List.mem_of_getElem? (i := 369) (by decide +kernel)) (by decide +kernel)
theorem lkX5_117 : Cond.methodLink RX5 117 yX5_sortStyles ∈ sp_T := sp_inT (List.mem_of_getElem? (i := 373) (by decide +kernel)) (by decide +kernel)
theorem lkX5_173 : Cond.methodLink RX5 173 yX3_sortBlocks ∈ sp_T := sp_inT (List.mem_of_getElem? (i := 377) (by decide +kernel)) (by decide +kernel)
theorem lkX3_32 : Cond.methodLink RX3 32 yX3_keyOf ∈ sp_T := sp_inT (List.mem_of_getElem? (i := 381) (by decide +kernel)) (by decide +kernel)
theorem lkX3_40 : Cond.methodLink RX3 40 yX4_districtOf ∈ sp_T := sp_inT (List.mem_of_getElem? (i := 384) (by decide +kernel)) (by decide +kernel)
theorem lkX3_36 : Cond.methodLink RX3 36 yX3_styleWithKey ∈ sp_T := sp_inT (List.mem_of_getElem? (i := 385) (by decide +kernel)) (by decide +kernel)
theorem lkX5_123 : Cond.methodLink RX5 123 yX4_districtOf ∈ sp_T := sp_inT (List.mem_of_getElem? (i := 389) (by decide +kernel)) (by decide +kernel)
theorem lkL_49 : Cond.methodLink RL 49 yX5_type ∈ sp_T := sp_inT (List.mem_of_getElem? (i := 390) (by decide +kernel)) (by decide +kernel)
theorem lkX5_126 : Cond.methodLink RX5 126 yX2_isFull ∈ sp_T := sp_inT (List.mem_of_getElem? (i := 394) (by decide +kernel)) (by decide +kernel)
theorem lkX5_130 : Cond.methodLink RX5 130 yX5_refuseFull ∈ sp_T := sp_inT (List.mem_of_getElem? (i := 398) (by decide +kernel)) (by decide +kernel)
theorem lkX5_133 : Cond.methodLink RX5 133 yX2_addByte ∈ sp_T := sp_inT (List.mem_of_getElem? (i := 402) (by decide +kernel)) (by decide +kernel)
theorem lkX2_35 : Cond.methodLink RX2 35 yX2_isFull ∈ sp_T := sp_inT (List.mem_of_getElem? (i := 406) (by decide +kernel)) (by decide +kernel)
theorem lkL_54 : Cond.methodLink RL 54 yX5_clear ∈ sp_T := sp_inT (List.mem_of_getElem? (i := 407) (by decide +kernel)) (by decide +kernel)
theorem lkX5_137 : Cond.methodLink RX5 137 yX2_makeEmpty ∈ sp_T := sp_inT (List.mem_of_getElem? (i := 411) (by decide +kernel)) (by decide +kernel)
theorem lkL_58 : Cond.methodLink RL 58 yX5_does ∈ sp_T := sp_inT (List.mem_of_getElem? (i := 415) (by decide +kernel)) (by decide +kernel)
theorem lkX5_140 : Cond.methodLink RX5 140 yX2_readOrders ∈ sp_T := sp_inT (List.mem_of_getElem? (i := 419) (by decide +kernel)) (by decide +kernel)
theorem lkX2_39 : Cond.methodLink RX2 39 yX2_readPiece ∈ sp_T := sp_inT (List.mem_of_getElem? (i := 423) (by decide +kernel)) (by decide +kernel)
theorem lkX2_72 : Cond.methodLink RX2 72 yX2_isLetter ∈ sp_T := sp_inT (List.mem_of_getElem? (i := 427) (by decide +kernel)) (by decide +kernel)
theorem lkX2_65 : Cond.methodLinkNest RX2 65 yX5_within RX5 ∈ lw_tbl := List.mem_of_getElem? (i := 430) (by decide +kernel)
theorem lkX2_76 : Cond.methodLink RX2 76 yX2_isFigure ∈ sp_T := sp_inT (List.mem_of_getElem? (i := 431) (by decide +kernel)) (by decide +kernel)
theorem lkX2_42 : Cond.methodLink RX2 42 yX2_readOrder ∈ sp_T := sp_inT (List.mem_of_getElem? (i := 434) (by decide +kernel)) (by decide +kernel)
theorem lkX2_46 : Cond.methodLink RX2 46 yX2_orderHere ∈ sp_T := sp_inT (List.mem_of_getElem? (i := 438) (by decide +kernel)) (by decide +kernel)
theorem lkX2_79 : Cond.methodLink RX2 79 yX2_wordOf ∈ sp_T := sp_inT (List.mem_of_getElem? (i := 442) (by decide +kernel)) (by decide +kernel)
theorem lkX2_83 : Cond.methodLink RX2 83 yX2_isHere ∈ sp_T := sp_inT (List.mem_of_getElem? (i := 450) (by decide +kernel)) (by decide +kernel)
theorem flX2_49 : Cond.fieldLink RX2 49 RX2 "NUMBERS" "[I" ∈ sp_T := sp_inT (List.mem_of_getElem? (i := 502) (by decide +kernel)) (by decide +kernel)
theorem lkX2_52 : Cond.methodLink RX2 52 yX2_numberHere ∈ sp_T := sp_inT (List.mem_of_getElem? (i := 504) (by decide +kernel)) (by decide +kernel)
theorem lkX2_55 : Cond.methodLink RX2 55 yX2_isAsTold ∈ sp_T := sp_inT (List.mem_of_getElem? (i := 508) (by decide +kernel)) (by decide +kernel)
theorem flX2_59 : Cond.fieldLink RX2 59 RX2 "LEAST" "[I" ∈ sp_T := sp_inT (List.mem_of_getElem? (i := 512) (by decide +kernel)) (by decide +kernel)
theorem flX2_62 : Cond.fieldLink RX2 62 RX2 "GREATEST" "[I" ∈ sp_T := sp_inT (List.mem_of_getElem? (i := 514) (by decide +kernel)) (by decide +kernel)
theorem lkX2_69 : Cond.methodLinkNest RX2 69 yX5_isRectangle RX5 ∈ lw_tbl := List.mem_of_getElem? (i := 516) (by decide +kernel)
theorem lkX5_144 : Cond.methodLink RX5 144 yX2_carryOut ∈ sp_T := sp_inT (List.mem_of_getElem? (i := 517) (by decide +kernel)) (by decide +kernel)
theorem lkX2_105 : Cond.methodLink RX2 105 yX4_switchLayer ∈ sp_T := sp_inT (List.mem_of_getElem? (i := 521) (by decide +kernel)) (by decide +kernel)
theorem lkX2_111 : Cond.methodLink RX2 111 yX4_putRectangle ∈ sp_T := sp_inT (List.mem_of_getElem? (i := 522) (by decide +kernel)) (by decide +kernel)
theorem lkX2_115 : Cond.methodLink RX2 115 yX4_setNames ∈ sp_T := sp_inT (List.mem_of_getElem? (i := 523) (by decide +kernel)) (by decide +kernel)
theorem lkX2_119 : Cond.methodLink RX2 119 yX4_setVoters ∈ sp_T := sp_inT (List.mem_of_getElem? (i := 524) (by decide +kernel)) (by decide +kernel)
theorem lkL_62 : Cond.methodLink RL 62 yX5_styles ∈ sp_T := sp_inT (List.mem_of_getElem? (i := 525) (by decide +kernel)) (by decide +kernel)
theorem lkL_66 : Cond.methodLink RL 66 yX5_style ∈ sp_T := sp_inT (List.mem_of_getElem? (i := 529) (by decide +kernel)) (by decide +kernel)
theorem lkX5_149 : Cond.methodLink RX5 149 yX5_isStyle ∈ sp_T := sp_inT (List.mem_of_getElem? (i := 533) (by decide +kernel)) (by decide +kernel)
theorem lkX5_152 : Cond.methodLink RX5 152 yX3_blocksOf ∈ sp_T := sp_inT (List.mem_of_getElem? (i := 537) (by decide +kernel)) (by decide +kernel)
theorem lkX5_155 : Cond.methodLink RX5 155 yX3_votersOf ∈ sp_T := sp_inT (List.mem_of_getElem? (i := 541) (by decide +kernel)) (by decide +kernel)
theorem lkX5_159 : Cond.methodLink RX5 159 yX3_partsOf ∈ sp_T := sp_inT (List.mem_of_getElem? (i := 545) (by decide +kernel)) (by decide +kernel)
theorem lkX3_49 : Cond.methodLink RX3 49 yX3_visitPart ∈ sp_T := sp_inT (List.mem_of_getElem? (i := 549) (by decide +kernel)) (by decide +kernel)
theorem lkX3_53 : Cond.methodLink RX3 53 yX3_neighbour ∈ sp_T := sp_inT (List.mem_of_getElem? (i := 553) (by decide +kernel)) (by decide +kernel)
theorem lkL_70 : Cond.methodLink RL 70 yX5_without ∈ sp_T := sp_inT (List.mem_of_getElem? (i := 562) (by decide +kernel)) (by decide +kernel)
theorem lkL_74 : Cond.methodLink RL 74 yX5_border ∈ sp_T := sp_inT (List.mem_of_getElem? (i := 566) (by decide +kernel)) (by decide +kernel)
theorem lkX5_177 : Cond.methodLink RX5 177 yX3_unlikePairs ∈ sp_T := sp_inT (List.mem_of_getElem? (i := 570) (by decide +kernel)) (by decide +kernel)
theorem lkL_78 : Cond.methodLink RL 78 yX5_beside ∈ sp_T := sp_inT (List.mem_of_getElem? (i := 574) (by decide +kernel)) (by decide +kernel)
theorem lkX5_180 : Cond.methodLink RX5 180 yX3_pairsOf ∈ sp_T := sp_inT (List.mem_of_getElem? (i := 578) (by decide +kernel)) (by decide +kernel)
theorem lkX3_56 : Cond.methodLink RX3 56 yX3_arePair ∈ sp_T := sp_inT (List.mem_of_getElem? (i := 582) (by decide +kernel)) (by decide +kernel)
theorem lkL_82 : Cond.methodLink RL 82 yX5_unlike ∈ sp_T := sp_inT (List.mem_of_getElem? (i := 585) (by decide +kernel)) (by decide +kernel)
theorem lkX5_183 : Cond.methodLink RX5 183 yX4_isOn ∈ sp_T := sp_inT (List.mem_of_getElem? (i := 589) (by decide +kernel)) (by decide +kernel)
theorem lkL_86 : Cond.methodLink RL 86 yX5_odd ∈ sp_T := sp_inT (List.mem_of_getElem? (i := 593) (by decide +kernel)) (by decide +kernel)
theorem lkX5_186 : Cond.methodLink RX5 186 yX3_fewestVoters ∈ sp_T := sp_inT (List.mem_of_getElem? (i := 597) (by decide +kernel)) (by decide +kernel)
theorem lkX3_60 : Cond.methodLink RX3 60 yX3_votersOf ∈ sp_T := sp_inT (List.mem_of_getElem? (i := 601) (by decide +kernel)) (by decide +kernel)
theorem lkX5_189 : Cond.methodLink RX5 189 yX3_mostParts ∈ sp_T := sp_inT (List.mem_of_getElem? (i := 602) (by decide +kernel)) (by decide +kernel)
theorem lkX3_64 : Cond.methodLink RX3 64 yX3_partsOf ∈ sp_T := sp_inT (List.mem_of_getElem? (i := 606) (by decide +kernel)) (by decide +kernel)
theorem lkL_90 : Cond.methodLink RL 90 yX5_paper ∈ sp_T := sp_inT (List.mem_of_getElem? (i := 607) (by decide +kernel)) (by decide +kernel)
theorem lkX5_192 : Cond.methodLink RX5 192 yX0_setColumns ∈ sp_T := sp_inT (List.mem_of_getElem? (i := 611) (by decide +kernel)) (by decide +kernel)
theorem lkX5_195 : Cond.methodLink RX5 195 yX0_setDepth ∈ sp_T := sp_inT (List.mem_of_getElem? (i := 615) (by decide +kernel)) (by decide +kernel)
theorem lkX5_198 : Cond.methodLink RX5 198 yX0_setRule ∈ sp_T := sp_inT (List.mem_of_getElem? (i := 619) (by decide +kernel)) (by decide +kernel)
theorem lkL_94 : Cond.methodLink RL 94 yX5_faces ∈ sp_T := sp_inT (List.mem_of_getElem? (i := 623) (by decide +kernel)) (by decide +kernel)
theorem lkX5_204 : Cond.methodLink RX5 204 yX5_sheetsOf ∈ sp_T := sp_inT (List.mem_of_getElem? (i := 627) (by decide +kernel)) (by decide +kernel)
theorem lkX5_207 : Cond.methodLink RX5 207 yX0_layContests ∈ sp_T := sp_inT (List.mem_of_getElem? (i := 631) (by decide +kernel)) (by decide +kernel)
theorem lkX0_44 : Cond.methodLink RX0 44 yX0_beginSheet ∈ sp_T := sp_inT (List.mem_of_getElem? (i := 635) (by decide +kernel)) (by decide +kernel)
theorem lkX0_47 : Cond.methodLink RX0 47 yX4_isOn ∈ sp_T := sp_inT (List.mem_of_getElem? (i := 639) (by decide +kernel)) (by decide +kernel)
theorem lkX0_53 : Cond.methodLink RX0 53 yX4_heightAt ∈ sp_T := sp_inT (List.mem_of_getElem? (i := 640) (by decide +kernel)) (by decide +kernel)
theorem lkX4_35 : Cond.methodLink RX4 35 yX4_namesOf ∈ sp_T := sp_inT (List.mem_of_getElem? (i := 644) (by decide +kernel)) (by decide +kernel)
theorem lkX0_57 : Cond.methodLink RX0 57 yX0_layOne ∈ sp_T := sp_inT (List.mem_of_getElem? (i := 648) (by decide +kernel)) (by decide +kernel)
theorem lkX0_61 : Cond.methodLink RX0 61 yX0_columnFor ∈ sp_T := sp_inT (List.mem_of_getElem? (i := 652) (by decide +kernel)) (by decide +kernel)
theorem lkX0_64 : Cond.methodLink RX0 64 yX0_nextColumn ∈ sp_T := sp_inT (List.mem_of_getElem? (i := 656) (by decide +kernel)) (by decide +kernel)
theorem lkX0_68 : Cond.methodLink RX0 68 yX0_firstColumn ∈ sp_T := sp_inT (List.mem_of_getElem? (i := 660) (by decide +kernel)) (by decide +kernel)
theorem lkX0_71 : Cond.methodLink RX0 71 yX0_tightColumn ∈ sp_T := sp_inT (List.mem_of_getElem? (i := 664) (by decide +kernel)) (by decide +kernel)
theorem lkX0_74 : Cond.methodLink RX0 74 yX0_looseColumn ∈ sp_T := sp_inT (List.mem_of_getElem? (i := 668) (by decide +kernel)) (by decide +kernel)
theorem lkL_98 : Cond.methodLink RL 98 yX5_contest ∈ sp_T := sp_inT (List.mem_of_getElem? (i := 672) (by decide +kernel)) (by decide +kernel)
theorem lkX5_217 : Cond.methodLink RX5 217 yX4_heightAt ∈ sp_T := sp_inT (List.mem_of_getElem? (i := 676) (by decide +kernel)) (by decide +kernel)
theorem lkL_102 : Cond.methodLink RL 102 yX5_room ∈ sp_T := sp_inT (List.mem_of_getElem? (i := 677) (by decide +kernel)) (by decide +kernel)
theorem lkX5_227 : Cond.methodLink RX5 227 yX5_sheetsOfAll ∈ sp_T := sp_inT (List.mem_of_getElem? (i := 681) (by decide +kernel)) (by decide +kernel)
theorem lkX5_230 : Cond.methodLink RX5 230 yX0_roomLeft ∈ sp_T := sp_inT (List.mem_of_getElem? (i := 685) (by decide +kernel)) (by decide +kernel)
theorem lkL_106 : Cond.methodLink RL 106 yX5_rule ∈ sp_T := sp_inT (List.mem_of_getElem? (i := 689) (by decide +kernel)) (by decide +kernel)
theorem lkX5_233 : Cond.methodLink RX5 233 yX5_hasBareStyle ∈ sp_T := sp_inT (List.mem_of_getElem? (i := 693) (by decide +kernel)) (by decide +kernel)
theorem lkL_110 : Cond.methodLink RL 110 yX5_leads ∈ sp_T := sp_inT (List.mem_of_getElem? (i := 697) (by decide +kernel)) (by decide +kernel)
theorem lkX5_236 : Cond.methodLink RX5 236 yX4_leaderIn ∈ sp_T := sp_inT (List.mem_of_getElem? (i := 701) (by decide +kernel)) (by decide +kernel)
theorem lkX4_63 : Cond.methodLink RX4 63 yX4_nextLeader ∈ sp_T := sp_inT (List.mem_of_getElem? (i := 705) (by decide +kernel)) (by decide +kernel)
theorem lkL_114 : Cond.methodLink RL 114 yX5_lead ∈ sp_T := sp_inT (List.mem_of_getElem? (i := 709) (by decide +kernel)) (by decide +kernel)
theorem lkX5_239 : Cond.methodLink RX5 239 yX5_isName ∈ sp_T := sp_inT (List.mem_of_getElem? (i := 713) (by decide +kernel)) (by decide +kernel)
theorem lkX5_242 : Cond.methodLink RX5 242 yX4_namesOf ∈ sp_T := sp_inT (List.mem_of_getElem? (i := 716) (by decide +kernel)) (by decide +kernel)
theorem lkX5_245 : Cond.methodLink RX5 245 yX4_ledBy ∈ sp_T := sp_inT (List.mem_of_getElem? (i := 717) (by decide +kernel)) (by decide +kernel)
theorem lkL_118 : Cond.methodLink RL 118 yX5_fair ∈ sp_T := sp_inT (List.mem_of_getElem? (i := 721) (by decide +kernel)) (by decide +kernel)
theorem lkL_122 : Cond.methodLink RL 122 yX5_place ∈ sp_T := sp_inT (List.mem_of_getElem? (i := 727) (by decide +kernel)) (by decide +kernel)
theorem lkL_126 : Cond.methodLink RL 126 yX5_told ∈ sp_T := sp_inT (List.mem_of_getElem? (i := 731) (by decide +kernel)) (by decide +kernel)
theorem lkX5_257 : Cond.methodLink RX5 257 yX5_counter ∈ sp_T := sp_inT (List.mem_of_getElem? (i := 735) (by decide +kernel)) (by decide +kernel)
theorem lkL_130 : Cond.methodLink RL 130 yX5_digest ∈ sp_T := sp_inT (List.mem_of_getElem? (i := 739) (by decide +kernel)) (by decide +kernel)
theorem kcX5_260 : Cond.constantLong RX5 260 (Int64.ofInt 2027) ∈ sp_T := sp_inT (List.mem_of_getElem? (i := 743) (by decide +kernel)) (by decide +kernel)
theorem kcX5_262 : Cond.constantLong RX5 262 (Int64.ofInt 31) ∈ sp_T := sp_inT (List.mem_of_getElem? (i := 744) (by decide +kernel)) (by decide +kernel)
theorem flX6_7 : sp_fl RX6 7 6 0 := ⟨RX6, TX6, 20, rfl, by decide, sp_inT (List.mem_of_getElem? (i := 751) (by decide +kernel)) (by decide +kernel)⟩
theorem flX6_13 : sp_fl RX6 13 6 1 := ⟨RX6, TX6, 20, rfl, by decide, sp_inT (List.mem_of_getElem? (i := 752) (by decide +kernel)) (by decide +kernel)⟩
theorem flX6_57 : sp_fl RX6 57 6 2 := ⟨RX6, TX6, 20, rfl, by decide, sp_inT (List.mem_of_getElem? (i := 753) (by decide +kernel)) (by decide +kernel)⟩
theorem flX6_16 : sp_fl RX6 16 6 3 := ⟨RX6, TX6, 20, rfl, by decide, sp_inT (List.mem_of_getElem? (i := 754) (by decide +kernel)) (by decide +kernel)⟩
theorem flX6_19 : sp_fl RX6 19 6 4 := ⟨RX6, TX6, 20, rfl, by decide, sp_inT (List.mem_of_getElem? (i := 755) (by decide +kernel)) (by decide +kernel)⟩
theorem flX6_22 : sp_fl RX6 22 6 5 := ⟨RX6, TX6, 20, rfl, by decide, sp_inT (List.mem_of_getElem? (i := 756) (by decide +kernel)) (by decide +kernel)⟩
theorem flX6_115 : sp_fl RX6 115 6 6 := ⟨RX6, TX6, 20, rfl, by decide, sp_inT (List.mem_of_getElem? (i := 757) (by decide +kernel)) (by decide +kernel)⟩
theorem flX6_118 : sp_fl RX6 118 6 7 := ⟨RX6, TX6, 20, rfl, by decide, sp_inT (List.mem_of_getElem? (i := 758) (by decide +kernel)) (by decide +kernel)⟩
theorem flX6_25 : sp_fl RX6 25 6 8 := ⟨RX6, TX6, 20, rfl, by decide, sp_inT (List.mem_of_getElem? (i := 759) (by decide +kernel)) (by decide +kernel)⟩
theorem flX6_28 : sp_fl RX6 28 6 9 := ⟨RX6, TX6, 20, rfl, by decide, sp_inT (List.mem_of_getElem? (i := 760) (by decide +kernel)) (by decide +kernel)⟩
theorem flX6_32 : sp_fl RX6 32 6 10 := ⟨RX6, TX6, 20, rfl, by decide, sp_inT (List.mem_of_getElem? (i := 761) (by decide +kernel)) (by decide +kernel)⟩
theorem flX6_35 : sp_fl RX6 35 6 11 := ⟨RX6, TX6, 20, rfl, by decide, sp_inT (List.mem_of_getElem? (i := 762) (by decide +kernel)) (by decide +kernel)⟩
theorem flX6_152 : sp_fl RX6 152 6 12 := ⟨RX6, TX6, 20, rfl, by decide, sp_inT (List.mem_of_getElem? (i := 763) (by decide +kernel)) (by decide +kernel)⟩
theorem flX6_38 : sp_fl RX6 38 6 13 := ⟨RX6, TX6, 20, rfl, by decide, sp_inT (List.mem_of_getElem? (i := 764) (by decide +kernel)) (by decide +kernel)⟩
theorem flX6_41 : sp_fl RX6 41 6 14 := ⟨RX6, TX6, 20, rfl, by decide, sp_inT (List.mem_of_getElem? (i := 765) (by decide +kernel)) (by decide +kernel)⟩
theorem flX6_44 : sp_fl RX6 44 6 15 := ⟨RX6, TX6, 20, rfl, by decide, sp_inT (List.mem_of_getElem? (i := 766) (by decide +kernel)) (by decide +kernel)⟩
theorem flX6_47 : sp_fl RX6 47 6 16 := ⟨RX6, TX6, 20, rfl, by decide, sp_inT (List.mem_of_getElem? (i := 767) (by decide +kernel)) (by decide +kernel)⟩
theorem flX6_185 : sp_fl RX6 185 6 17 := ⟨RX6, TX6, 20, rfl, by decide, sp_inT (List.mem_of_getElem? (i := 768) (by decide +kernel)) (by decide +kernel)⟩
theorem flX6_50 : sp_fl RX6 50 6 18 := ⟨RX6, TX6, 20, rfl, by decide, sp_inT (List.mem_of_getElem? (i := 769) (by decide +kernel)) (by decide +kernel)⟩
theorem flX6_182 : sp_fl RX6 182 6 19 := ⟨RX6, TX6, 20, rfl, by decide, sp_inT (List.mem_of_getElem? (i := 770) (by decide +kernel)) (by decide +kernel)⟩
theorem lkL_17 : Cond.methodLink RL 17 yX6_on ∈ sp_T := sp_inT (List.mem_of_getElem? (i := 813) (by decide +kernel)) (by decide +kernel)
theorem lkX6_65 : Cond.methodLink RX6 65 yX6_isLayer ∈ sp_T := sp_inT (List.mem_of_getElem? (i := 817) (by decide +kernel)) (by decide +kernel)
theorem lkX6_53 : Cond.methodLink RX6 53 yX6_in ∈ sp_T := sp_inT (List.mem_of_getElem? (i := 820) (by decide +kernel)) (by decide +kernel)
theorem lkX6_68 : Cond.methodLink RX6 68 yX6_refuses ∈ sp_T := sp_inT (List.mem_of_getElem? (i := 823) (by decide +kernel)) (by decide +kernel)
theorem lkX6_72 : Cond.methodLink RX6 72 yX6_keeps ∈ sp_T := sp_inT (List.mem_of_getElem? (i := 827) (by decide +kernel)) (by decide +kernel)
theorem lkX6_75 : Cond.methodLink RX6 75 yX6_turns ∈ sp_T := sp_inT (List.mem_of_getElem? (i := 831) (by decide +kernel)) (by decide +kernel)
theorem lkX6_61 : Cond.methodLink RX6 61 yX6_isOn ∈ sp_T := sp_inT (List.mem_of_getElem? (i := 835) (by decide +kernel)) (by decide +kernel)
theorem lkL_22 : Cond.methodLink RL 22 yX6_puts ∈ sp_T := sp_inT (List.mem_of_getElem? (i := 839) (by decide +kernel)) (by decide +kernel)
theorem lkX6_82 : Cond.methodLink RX6 82 yX6_isDistrict ∈ sp_T := sp_inT (List.mem_of_getElem? (i := 843) (by decide +kernel)) (by decide +kernel)
theorem lkX6_85 : Cond.methodLink RX6 85 yX6_isBlock ∈ sp_T := sp_inT (List.mem_of_getElem? (i := 846) (by decide +kernel)) (by decide +kernel)
theorem lkX6_88 : Cond.methodLink RX6 88 yX6_isRectangle ∈ sp_T := sp_inT (List.mem_of_getElem? (i := 849) (by decide +kernel)) (by decide +kernel)
theorem lkX6_92 : Cond.methodLink RX6 92 yX6_lays ∈ sp_T := sp_inT (List.mem_of_getElem? (i := 852) (by decide +kernel)) (by decide +kernel)
theorem lkX6_79 : Cond.methodLink RX6 79 yX6_district ∈ sp_T := sp_inT (List.mem_of_getElem? (i := 856) (by decide +kernel)) (by decide +kernel)
theorem lkL_27 : Cond.methodLink RL 27 yX6_names ∈ sp_T := sp_inT (List.mem_of_getElem? (i := 860) (by decide +kernel)) (by decide +kernel)
theorem lkX6_96 : Cond.methodLink RX6 96 yX6_becomes ∈ sp_T := sp_inT (List.mem_of_getElem? (i := 864) (by decide +kernel)) (by decide +kernel)
theorem lkL_31 : Cond.methodLink RL 31 yX6_voters ∈ sp_T := sp_inT (List.mem_of_getElem? (i := 868) (by decide +kernel)) (by decide +kernel)
theorem lkL_35 : Cond.methodLink RL 35 yX6_draw ∈ sp_T := sp_inT (List.mem_of_getElem? (i := 872) (by decide +kernel)) (by decide +kernel)
theorem kcX6_99 : Cond.constant RX6 99 (Int32.ofInt 999999) ∈ sp_T := sp_inT (List.mem_of_getElem? (i := 876) (by decide +kernel)) (by decide +kernel)
theorem kcX6_100 : Cond.constantLong RX6 100 (Int64.ofInt 1103515245) ∈ sp_T := sp_inT (List.mem_of_getElem? (i := 877) (by decide +kernel)) (by decide +kernel)
theorem kcX6_102 : Cond.constantLong RX6 102 (Int64.ofInt 12345) ∈ sp_T := sp_inT (List.mem_of_getElem? (i := 878) (by decide +kernel)) (by decide +kernel)
theorem kcX6_104 : Cond.constantLong RX6 104 (Int64.ofInt 2147483648) ∈ sp_T := sp_inT (List.mem_of_getElem? (i := 879) (by decide +kernel)) (by decide +kernel)
theorem kcX6_106 : Cond.constantLong RX6 106 (Int64.ofInt 65536) ∈ sp_T := sp_inT (List.mem_of_getElem? (i := 880) (by decide +kernel)) (by decide +kernel)
theorem kcX6_108 : Cond.constantLong RX6 108 (Int64.ofInt 1024) ∈ sp_T := sp_inT (List.mem_of_getElem? (i := 881) (by decide +kernel)) (by decide +kernel)
theorem kcX6_110 : Cond.constantLong RX6 110 (Int64.ofInt 30) ∈ sp_T := sp_inT (List.mem_of_getElem? (i := 882) (by decide +kernel)) (by decide +kernel)
theorem lkL_39 : Cond.methodLink RL 39 yX6_follows ∈ sp_T := sp_inT (List.mem_of_getElem? (i := 883) (by decide +kernel)) (by decide +kernel)
theorem lkL_44 : Cond.methodLink RL 44 yX6_undo ∈ sp_T := sp_inT (List.mem_of_getElem? (i := 887) (by decide +kernel)) (by decide +kernel)
theorem lkL_48 : Cond.methodLink RL 48 yX6_of ∈ sp_T := sp_inT (List.mem_of_getElem? (i := 891) (by decide +kernel)) (by decide +kernel)
theorem lkX6_112 : Cond.methodLink RX6 112 yX6_finds ∈ sp_T := sp_inT (List.mem_of_getElem? (i := 895) (by decide +kernel)) (by decide +kernel)
theorem lkX6_155 : Cond.methodLink RX6 155 yX6_isLike ∈ sp_T := sp_inT (List.mem_of_getElem? (i := 899) (by decide +kernel)) (by decide +kernel)
theorem lkL_53 : Cond.methodLink RL 53 yX6_type ∈ sp_T := sp_inT (List.mem_of_getElem? (i := 903) (by decide +kernel)) (by decide +kernel)
theorem lkL_57 : Cond.methodLink RL 57 yX6_clear ∈ sp_T := sp_inT (List.mem_of_getElem? (i := 907) (by decide +kernel)) (by decide +kernel)
theorem lkL_61 : Cond.methodLink RL 61 yX6_does ∈ sp_T := sp_inT (List.mem_of_getElem? (i := 911) (by decide +kernel)) (by decide +kernel)
theorem lkX6_148 : Cond.methodLink RX6 148 yX6_goesThrough ∈ sp_T := sp_inT (List.mem_of_getElem? (i := 915) (by decide +kernel)) (by decide +kernel)
theorem lkX6_124 : Cond.methodLink RX6 124 yX6_skips ∈ sp_T := sp_inT (List.mem_of_getElem? (i := 919) (by decide +kernel)) (by decide +kernel)
theorem lkX6_121 : Cond.methodLink RX6 121 yX6_byteAt ∈ sp_T := sp_inT (List.mem_of_getElem? (i := 923) (by decide +kernel)) (by decide +kernel)
theorem lkX6_141 : Cond.methodLink RX6 141 yX6_order ∈ sp_T := sp_inT (List.mem_of_getElem? (i := 927) (by decide +kernel)) (by decide +kernel)
theorem lkX6_133 : Cond.methodLink RX6 133 yX6_word ∈ sp_T := sp_inT (List.mem_of_getElem? (i := 931) (by decide +kernel)) (by decide +kernel)
theorem lkX6_127 : Cond.methodLink RX6 127 yX6_isWord ∈ sp_T := sp_inT (List.mem_of_getElem? (i := 935) (by decide +kernel)) (by decide +kernel)
theorem lkX6_130 : Cond.methodLink RX6 130 yX6_isNumber ∈ sp_T := sp_inT (List.mem_of_getElem? (i := 939) (by decide +kernel)) (by decide +kernel)
theorem lkX6_137 : Cond.methodLink RX6 137 yX6_isEnd ∈ sp_T := sp_inT (List.mem_of_getElem? (i := 943) (by decide +kernel)) (by decide +kernel)
theorem lkX6_144 : Cond.methodLink RX6 144 yX6_done ∈ sp_T := sp_inT (List.mem_of_getElem? (i := 947) (by decide +kernel)) (by decide +kernel)
theorem lkL_65 : Cond.methodLink RL 65 yX6_styles ∈ sp_T := sp_inT (List.mem_of_getElem? (i := 951) (by decide +kernel)) (by decide +kernel)
theorem lkL_69 : Cond.methodLink RL 69 yX6_style ∈ sp_T := sp_inT (List.mem_of_getElem? (i := 955) (by decide +kernel)) (by decide +kernel)
theorem lkX6_161 : Cond.methodLink RX6 161 yX6_isStyle ∈ sp_T := sp_inT (List.mem_of_getElem? (i := 959) (by decide +kernel)) (by decide +kernel)
theorem lkX6_164 : Cond.methodLink RX6 164 yX6_blocksOf ∈ sp_T := sp_inT (List.mem_of_getElem? (i := 963) (by decide +kernel)) (by decide +kernel)
theorem lkX6_167 : Cond.methodLink RX6 167 yX6_votersOf ∈ sp_T := sp_inT (List.mem_of_getElem? (i := 967) (by decide +kernel)) (by decide +kernel)
theorem lkX6_170 : Cond.methodLink RX6 170 yX6_partsOf ∈ sp_T := sp_inT (List.mem_of_getElem? (i := 971) (by decide +kernel)) (by decide +kernel)
theorem lkX6_158 : Cond.methodLink RX6 158 yX6_isBeside ∈ sp_T := sp_inT (List.mem_of_getElem? (i := 975) (by decide +kernel)) (by decide +kernel)
theorem lkX6_173 : Cond.methodLink RX6 173 yX6_contestsOn ∈ sp_T := sp_inT (List.mem_of_getElem? (i := 978) (by decide +kernel)) (by decide +kernel)
theorem lkL_73 : Cond.methodLink RL 73 yX6_without ∈ sp_T := sp_inT (List.mem_of_getElem? (i := 982) (by decide +kernel)) (by decide +kernel)
theorem lkL_77 : Cond.methodLink RL 77 yX6_border ∈ sp_T := sp_inT (List.mem_of_getElem? (i := 986) (by decide +kernel)) (by decide +kernel)
theorem lkX6_176 : Cond.methodLink RX6 176 yX6_borderOf ∈ sp_T := sp_inT (List.mem_of_getElem? (i := 990) (by decide +kernel)) (by decide +kernel)
theorem lkL_81 : Cond.methodLink RL 81 yX6_beside ∈ sp_T := sp_inT (List.mem_of_getElem? (i := 994) (by decide +kernel)) (by decide +kernel)
theorem lkL_85 : Cond.methodLink RL 85 yX6_unlike ∈ sp_T := sp_inT (List.mem_of_getElem? (i := 998) (by decide +kernel)) (by decide +kernel)
theorem lkL_89 : Cond.methodLink RL 89 yX6_odd ∈ sp_T := sp_inT (List.mem_of_getElem? (i := 1002) (by decide +kernel)) (by decide +kernel)
theorem lkL_93 : Cond.methodLink RL 93 yX6_paper ∈ sp_T := sp_inT (List.mem_of_getElem? (i := 1006) (by decide +kernel)) (by decide +kernel)
theorem lkL_97 : Cond.methodLink RL 97 yX6_faces ∈ sp_T := sp_inT (List.mem_of_getElem? (i := 1010) (by decide +kernel)) (by decide +kernel)
theorem lkX6_198 : Cond.methodLink RX6 198 yX6_prints ∈ sp_T := sp_inT (List.mem_of_getElem? (i := 1014) (by decide +kernel)) (by decide +kernel)
theorem lkX6_188 : Cond.methodLink RX6 188 yX6_begins ∈ sp_T := sp_inT (List.mem_of_getElem? (i := 1018) (by decide +kernel)) (by decide +kernel)
theorem lkX6_191 : Cond.methodLink RX6 191 yX6_heightOf ∈ sp_T := sp_inT (List.mem_of_getElem? (i := 1022) (by decide +kernel)) (by decide +kernel)
theorem lkX6_179 : Cond.methodLink RX6 179 yX6_namesOf ∈ sp_T := sp_inT (List.mem_of_getElem? (i := 1026) (by decide +kernel)) (by decide +kernel)
theorem lkX6_194 : Cond.methodLink RX6 194 yX6_columnBy ∈ sp_T := sp_inT (List.mem_of_getElem? (i := 1030) (by decide +kernel)) (by decide +kernel)
theorem lkL_101 : Cond.methodLink RL 101 yX6_contest ∈ sp_T := sp_inT (List.mem_of_getElem? (i := 1034) (by decide +kernel)) (by decide +kernel)
theorem lkL_105 : Cond.methodLink RL 105 yX6_room ∈ sp_T := sp_inT (List.mem_of_getElem? (i := 1038) (by decide +kernel)) (by decide +kernel)
theorem lkX6_201 : Cond.methodLink RX6 201 yX6_facesBy ∈ sp_T := sp_inT (List.mem_of_getElem? (i := 1042) (by decide +kernel)) (by decide +kernel)
theorem lkL_109 : Cond.methodLink RL 109 yX6_rule ∈ sp_T := sp_inT (List.mem_of_getElem? (i := 1046) (by decide +kernel)) (by decide +kernel)
theorem lkL_113 : Cond.methodLink RL 113 yX6_leads ∈ sp_T := sp_inT (List.mem_of_getElem? (i := 1050) (by decide +kernel)) (by decide +kernel)
theorem lkX6_208 : Cond.methodLink RX6 208 yX6_leader ∈ sp_T := sp_inT (List.mem_of_getElem? (i := 1054) (by decide +kernel)) (by decide +kernel)
theorem lkX6_205 : Cond.methodLink RX6 205 yX6_rank ∈ sp_T := sp_inT (List.mem_of_getElem? (i := 1058) (by decide +kernel)) (by decide +kernel)
theorem lkL_117 : Cond.methodLink RL 117 yX6_lead ∈ sp_T := sp_inT (List.mem_of_getElem? (i := 1062) (by decide +kernel)) (by decide +kernel)
theorem lkX6_211 : Cond.methodLink RX6 211 yX6_leadOf ∈ sp_T := sp_inT (List.mem_of_getElem? (i := 1066) (by decide +kernel)) (by decide +kernel)
theorem lkL_121 : Cond.methodLink RL 121 yX6_fair ∈ sp_T := sp_inT (List.mem_of_getElem? (i := 1070) (by decide +kernel)) (by decide +kernel)
theorem kcX6_215 : Cond.constant RX6 215 (Int32.ofInt 99999) ∈ sp_T := sp_inT (List.mem_of_getElem? (i := 1074) (by decide +kernel)) (by decide +kernel)
theorem lkL_125 : Cond.methodLink RL 125 yX6_place ∈ sp_T := sp_inT (List.mem_of_getElem? (i := 1075) (by decide +kernel)) (by decide +kernel)
theorem lkL_129 : Cond.methodLink RL 129 yX6_told ∈ sp_T := sp_inT (List.mem_of_getElem? (i := 1079) (by decide +kernel)) (by decide +kernel)
theorem lkX6_216 : Cond.methodLink RX6 216 yX6_toldOf ∈ sp_T := sp_inT (List.mem_of_getElem? (i := 1083) (by decide +kernel)) (by decide +kernel)
theorem lkL_134 : Cond.methodLink RL 134 yX6_digest ∈ sp_T := sp_inT (List.mem_of_getElem? (i := 1087) (by decide +kernel)) (by decide +kernel)
theorem kcX6_219 : Cond.constantLong RX6 219 (Int64.ofInt 2027) ∈ sp_T := sp_inT (List.mem_of_getElem? (i := 1091) (by decide +kernel)) (by decide +kernel)
theorem kcX6_221 : Cond.constantLong RX6 221 (Int64.ofInt 31) ∈ sp_T := sp_inT (List.mem_of_getElem? (i := 1092) (by decide +kernel)) (by decide +kernel)
theorem fi_0_0 : sp_fi 0 0 false := ⟨RX0, TX0, 10, rfl, by decide, rfl, rfl⟩
theorem fi_0_1 : sp_fi 0 1 false := ⟨RX0, TX0, 10, rfl, by decide, rfl, rfl⟩
theorem fi_0_2 : sp_fi 0 2 false := ⟨RX0, TX0, 10, rfl, by decide, rfl, rfl⟩
theorem fi_0_6 : sp_fi 0 6 false := ⟨RX0, TX0, 10, rfl, by decide, rfl, rfl⟩
theorem fi_0_7 : sp_fi 0 7 false := ⟨RX0, TX0, 10, rfl, by decide, rfl, rfl⟩
theorem fi_0_8 : sp_fi 0 8 false := ⟨RX0, TX0, 10, rfl, by decide, rfl, rfl⟩
theorem fi_0_9 : sp_fi 0 9 true := ⟨RX0, TX0, 10, rfl, by decide, rfl, rfl⟩
theorem fi_1_1 : sp_fi 1 1 false := ⟨RX1, TX1, 3, rfl, by decide, rfl, rfl⟩
theorem fi_1_2 : sp_fi 1 2 false := ⟨RX1, TX1, 3, rfl, by decide, rfl, rfl⟩
theorem fi_2_1 : sp_fi 2 1 false := ⟨RX2, TX2, 7, rfl, by decide, rfl, rfl⟩
theorem fi_2_3 : sp_fi 2 3 false := ⟨RX2, TX2, 7, rfl, by decide, rfl, rfl⟩
theorem fi_2_4 : sp_fi 2 4 false := ⟨RX2, TX2, 7, rfl, by decide, rfl, rfl⟩
theorem fi_2_5 : sp_fi 2 5 false := ⟨RX2, TX2, 7, rfl, by decide, rfl, rfl⟩
theorem fi_2_6 : sp_fi 2 6 false := ⟨RX2, TX2, 7, rfl, by decide, rfl, rfl⟩
theorem fi_3_5 : sp_fi 3 5 false := ⟨RX3, TX3, 6, rfl, by decide, rfl, rfl⟩
theorem fi_4_3 : sp_fi 4 3 false := ⟨RX4, TX4, 4, rfl, by decide, rfl, rfl⟩
theorem fi_5_5 : sp_fi 5 5 false := ⟨RX5, TX5, 8, rfl, by decide, rfl, rfl⟩
theorem fi_5_6 : sp_fi 5 6 false := ⟨RX5, TX5, 8, rfl, by decide, rfl, rfl⟩
theorem fi_5_7 : sp_fi 5 7 false := ⟨RX5, TX5, 8, rfl, by decide, rfl, rfl⟩
theorem fi_6_2 : sp_fi 6 2 false := ⟨RX6, TX6, 20, rfl, by decide, rfl, rfl⟩
theorem fi_6_6 : sp_fi 6 6 false := ⟨RX6, TX6, 20, rfl, by decide, rfl, rfl⟩
theorem fi_6_7 : sp_fi 6 7 false := ⟨RX6, TX6, 20, rfl, by decide, rfl, rfl⟩
theorem fi_6_12 : sp_fi 6 12 false := ⟨RX6, TX6, 20, rfl, by decide, rfl, rfl⟩
theorem fi_6_17 : sp_fi 6 17 false := ⟨RX6, TX6, 20, rfl, by decide, rfl, rfl⟩
theorem fi_6_19 : sp_fi 6 19 false := ⟨RX6, TX6, 20, rfl, by decide, rfl, rfl⟩
end
section
section CALLS
variable {M M2 : sp_M} {d pc : Nat} {L L2 : List (Option sp_V)} {st : List sp_V} {g : sp_G} {Q : sp_P}
theorem aw_S0 {ix : Nat} (hd : decode M.2.1 pc = .ok (.invokestatic ix, 3)) (ho : sp_okS M2 0) (hw : Cond.methodLink M.1.cls ix M2.1 ∈ sp_T) (hc : Nat.ble (st.map (fun v => if sp_c1 v = true then 1 else 2)).sum 8 = true) (k : sp_Met d M2 [] g (fun v g2 => sp_AW M (d + 1) (pc + 3) L (sp_psh v st) g2 Q)) : sp_AW M (d + 1) pc L (st) g Q := aw_callS (as := []) hd ho hw rfl rfl (Nat.le_of_ble_eq_true hc) k
theorem aw_N0 {ix : Nat} {host : String} (hd : decode M.2.1 pc = .ok (.invokestatic ix, 3)) (ho : sp_okS M2 0) (hw : Cond.methodLinkNest M.1.cls ix M2.1 host ∈ lw_tbl) (hc : Nat.ble (st.map (fun v => if sp_c1 v = true then 1 else 2)).sum 8 = true) (k : sp_Met d M2 [] g (fun v g2 => sp_AW M (d + 1) (pc + 3) L (sp_psh v st) g2 Q)) : sp_AW M (d + 1) pc L (st) g Q := aw_callSn (as := []) hd ho hw rfl rfl (Nat.le_of_ble_eq_true hc) k
theorem aw_V0 {ix o ci N : Nat} {T : u_T} {fl : List (Option Nat)} (hd : decode M.2.1 pc = .ok (.invokevirtual ix, 3)) (ho : sp_okV M2 0) (hw : Cond.methodLink M.1.cls ix M2.1 ∈ sp_T) (hs : sp_sh[o]? = some (.inl (ci, fl))) (hci : sp_cl[ci]? = some (M2.1.cls, T, N)) (hc : Nat.ble (st.map (fun v => if sp_c1 v = true then 1 else 2)).sum 8 = true) (k : sp_Met d M2 (v_r o :: []) g (fun v g2 => sp_AW M (d + 1) (pc + 3) L (sp_psh v st) g2 Q)) : sp_AW M (d + 1) pc L (v_r o :: st) g Q := aw_callV (as := []) hd ho hw hs hci rfl rfl (Nat.le_of_ble_eq_true hc) k
theorem aw_S1 {a0 : sp_V} {ix : Nat} (hd : decode M.2.1 pc = .ok (.invokestatic ix, 3)) (ho : sp_okS M2 1) (hw : Cond.methodLink M.1.cls ix M2.1 ∈ sp_T) (hc : Nat.ble (st.map (fun v => if sp_c1 v = true then 1 else 2)).sum 8 = true) (k : sp_Met d M2 [a0] g (fun v g2 => sp_AW M (d + 1) (pc + 3) L (sp_psh v st) g2 Q)) : sp_AW M (d + 1) pc L (a0 :: st) g Q := aw_callS (as := [a0]) hd ho hw rfl rfl (Nat.le_of_ble_eq_true hc) k
theorem aw_N1 {a0 : sp_V} {ix : Nat} {host : String} (hd : decode M.2.1 pc = .ok (.invokestatic ix, 3)) (ho : sp_okS M2 1) (hw : Cond.methodLinkNest M.1.cls ix M2.1 host ∈ lw_tbl) (hc : Nat.ble (st.map (fun v => if sp_c1 v = true then 1 else 2)).sum 8 = true) (k : sp_Met d M2 [a0] g (fun v g2 => sp_AW M (d + 1) (pc + 3) L (sp_psh v st) g2 Q)) : sp_AW M (d + 1) pc L (a0 :: st) g Q := aw_callSn (as := [a0]) hd ho hw rfl rfl (Nat.le_of_ble_eq_true hc) k
theorem aw_V1 {a0 : sp_V} {ix o ci N : Nat} {T : u_T} {fl : List (Option Nat)} (hd : decode M.2.1 pc = .ok (.invokevirtual ix, 3)) (ho : sp_okV M2 1) (hw : Cond.methodLink M.1.cls ix M2.1 ∈ sp_T) (hs : sp_sh[o]? = some (.inl (ci, fl))) (hci : sp_cl[ci]? = some (M2.1.cls, T, N)) (hc : Nat.ble (st.map (fun v => if sp_c1 v = true then 1 else 2)).sum 8 = true) (k : sp_Met d M2 (v_r o :: [a0]) g (fun v g2 => sp_AW M (d + 1) (pc + 3) L (sp_psh v st) g2 Q)) : sp_AW M (d + 1) pc L (a0 :: v_r o :: st) g Q := aw_callV (as := [a0]) hd ho hw hs hci rfl rfl (Nat.le_of_ble_eq_true hc) k
theorem aw_S2 {a0 a1 : sp_V} {ix : Nat} (hd : decode M.2.1 pc = .ok (.invokestatic ix, 3)) (ho : sp_okS M2 2) (hw : Cond.methodLink M.1.cls ix M2.1 ∈ sp_T) (hc : Nat.ble (st.map (fun v => if sp_c1 v = true then 1 else 2)).sum 8 = true) (k : sp_Met d M2 [a0, a1] g (fun v g2 => sp_AW M (d + 1) (pc + 3) L (sp_psh v st) g2 Q)) : sp_AW M (d + 1) pc L (a1 :: a0 :: st) g Q := aw_callS (as := [a0, a1]) hd ho hw rfl rfl (Nat.le_of_ble_eq_true hc) k
theorem aw_N2 {a0 a1 : sp_V} {ix : Nat} {host : String} (hd : decode M.2.1 pc = .ok (.invokestatic ix, 3)) (ho : sp_okS M2 2) (hw : Cond.methodLinkNest M.1.cls ix M2.1 host ∈ lw_tbl) (hc : Nat.ble (st.map (fun v => if sp_c1 v = true then 1 else 2)).sum 8 = true) (k : sp_Met d M2 [a0, a1] g (fun v g2 => sp_AW M (d + 1) (pc + 3) L (sp_psh v st) g2 Q)) : sp_AW M (d + 1) pc L (a1 :: a0 :: st) g Q := aw_callSn (as := [a0, a1]) hd ho hw rfl rfl (Nat.le_of_ble_eq_true hc) k
theorem aw_V2 {a0 a1 : sp_V} {ix o ci N : Nat} {T : u_T} {fl : List (Option Nat)} (hd : decode M.2.1 pc = .ok (.invokevirtual ix, 3)) (ho : sp_okV M2 2) (hw : Cond.methodLink M.1.cls ix M2.1 ∈ sp_T) (hs : sp_sh[o]? = some (.inl (ci, fl))) (hci : sp_cl[ci]? = some (M2.1.cls, T, N)) (hc : Nat.ble (st.map (fun v => if sp_c1 v = true then 1 else 2)).sum 8 = true) (k : sp_Met d M2 (v_r o :: [a0, a1]) g (fun v g2 => sp_AW M (d + 1) (pc + 3) L (sp_psh v st) g2 Q)) : sp_AW M (d + 1) pc L (a1 :: a0 :: v_r o :: st) g Q := aw_callV (as := [a0, a1]) hd ho hw hs hci rfl rfl (Nat.le_of_ble_eq_true hc) k
theorem aw_S3 {a0 a1 a2 : sp_V} {ix : Nat} (hd : decode M.2.1 pc = .ok (.invokestatic ix, 3)) (ho : sp_okS M2 3) (hw : Cond.methodLink M.1.cls ix M2.1 ∈ sp_T) (hc : Nat.ble (st.map (fun v => if sp_c1 v = true then 1 else 2)).sum 8 = true) (k : sp_Met d M2 [a0, a1, a2] g (fun v g2 => sp_AW M (d + 1) (pc + 3) L (sp_psh v st) g2 Q)) : sp_AW M (d + 1) pc L (a2 :: a1 :: a0 :: st) g Q := aw_callS (as := [a0, a1, a2]) hd ho hw rfl rfl (Nat.le_of_ble_eq_true hc) k
theorem aw_N3 {a0 a1 a2 : sp_V} {ix : Nat} {host : String} (hd : decode M.2.1 pc = .ok (.invokestatic ix, 3)) (ho : sp_okS M2 3) (hw : Cond.methodLinkNest M.1.cls ix M2.1 host ∈ lw_tbl) (hc : Nat.ble (st.map (fun v => if sp_c1 v = true then 1 else 2)).sum 8 = true) (k : sp_Met d M2 [a0, a1, a2] g (fun v g2 => sp_AW M (d + 1) (pc + 3) L (sp_psh v st) g2 Q)) : sp_AW M (d + 1) pc L (a2 :: a1 :: a0 :: st) g Q := aw_callSn (as := [a0, a1, a2]) hd ho hw rfl rfl (Nat.le_of_ble_eq_true hc) k
theorem aw_V3 {a0 a1 a2 : sp_V} {ix o ci N : Nat} {T : u_T} {fl : List (Option Nat)} (hd : decode M.2.1 pc = .ok (.invokevirtual ix, 3)) (ho : sp_okV M2 3) (hw : Cond.methodLink M.1.cls ix M2.1 ∈ sp_T) (hs : sp_sh[o]? = some (.inl (ci, fl))) (hci : sp_cl[ci]? = some (M2.1.cls, T, N)) (hc : Nat.ble (st.map (fun v => if sp_c1 v = true then 1 else 2)).sum 8 = true) (k : sp_Met d M2 (v_r o :: [a0, a1, a2]) g (fun v g2 => sp_AW M (d + 1) (pc + 3) L (sp_psh v st) g2 Q)) : sp_AW M (d + 1) pc L (a2 :: a1 :: a0 :: v_r o :: st) g Q := aw_callV (as := [a0, a1, a2]) hd ho hw hs hci rfl rfl (Nat.le_of_ble_eq_true hc) k
theorem aw_S4 {a0 a1 a2 a3 : sp_V} {ix : Nat} (hd : decode M.2.1 pc = .ok (.invokestatic ix, 3)) (ho : sp_okS M2 4) (hw : Cond.methodLink M.1.cls ix M2.1 ∈ sp_T) (hc : Nat.ble (st.map (fun v => if sp_c1 v = true then 1 else 2)).sum 8 = true) (k : sp_Met d M2 [a0, a1, a2, a3] g (fun v g2 => sp_AW M (d + 1) (pc + 3) L (sp_psh v st) g2 Q)) : sp_AW M (d + 1) pc L (a3 :: a2 :: a1 :: a0 :: st) g Q := aw_callS (as := [a0, a1, a2, a3]) hd ho hw rfl rfl (Nat.le_of_ble_eq_true hc) k
theorem aw_N4 {a0 a1 a2 a3 : sp_V} {ix : Nat} {host : String} (hd : decode M.2.1 pc = .ok (.invokestatic ix, 3)) (ho : sp_okS M2 4) (hw : Cond.methodLinkNest M.1.cls ix M2.1 host ∈ lw_tbl) (hc : Nat.ble (st.map (fun v => if sp_c1 v = true then 1 else 2)).sum 8 = true) (k : sp_Met d M2 [a0, a1, a2, a3] g (fun v g2 => sp_AW M (d + 1) (pc + 3) L (sp_psh v st) g2 Q)) : sp_AW M (d + 1) pc L (a3 :: a2 :: a1 :: a0 :: st) g Q := aw_callSn (as := [a0, a1, a2, a3]) hd ho hw rfl rfl (Nat.le_of_ble_eq_true hc) k
theorem aw_V4 {a0 a1 a2 a3 : sp_V} {ix o ci N : Nat} {T : u_T} {fl : List (Option Nat)} (hd : decode M.2.1 pc = .ok (.invokevirtual ix, 3)) (ho : sp_okV M2 4) (hw : Cond.methodLink M.1.cls ix M2.1 ∈ sp_T) (hs : sp_sh[o]? = some (.inl (ci, fl))) (hci : sp_cl[ci]? = some (M2.1.cls, T, N)) (hc : Nat.ble (st.map (fun v => if sp_c1 v = true then 1 else 2)).sum 8 = true) (k : sp_Met d M2 (v_r o :: [a0, a1, a2, a3]) g (fun v g2 => sp_AW M (d + 1) (pc + 3) L (sp_psh v st) g2 Q)) : sp_AW M (d + 1) pc L (a3 :: a2 :: a1 :: a0 :: v_r o :: st) g Q := aw_callV (as := [a0, a1, a2, a3]) hd ho hw hs hci rfl rfl (Nat.le_of_ble_eq_true hc) k
theorem aw_S5 {a0 a1 a2 a3 a4 : sp_V} {ix : Nat} (hd : decode M.2.1 pc = .ok (.invokestatic ix, 3)) (ho : sp_okS M2 5) (hw : Cond.methodLink M.1.cls ix M2.1 ∈ sp_T) (hc : Nat.ble (st.map (fun v => if sp_c1 v = true then 1 else 2)).sum 8 = true) (k : sp_Met d M2 [a0, a1, a2, a3, a4] g (fun v g2 => sp_AW M (d + 1) (pc + 3) L (sp_psh v st) g2 Q)) : sp_AW M (d + 1) pc L (a4 :: a3 :: a2 :: a1 :: a0 :: st) g Q := aw_callS (as := [a0, a1, a2, a3, a4]) hd ho hw rfl rfl (Nat.le_of_ble_eq_true hc) k
theorem aw_N5 {a0 a1 a2 a3 a4 : sp_V} {ix : Nat} {host : String} (hd : decode M.2.1 pc = .ok (.invokestatic ix, 3)) (ho : sp_okS M2 5) (hw : Cond.methodLinkNest M.1.cls ix M2.1 host ∈ lw_tbl) (hc : Nat.ble (st.map (fun v => if sp_c1 v = true then 1 else 2)).sum 8 = true) (k : sp_Met d M2 [a0, a1, a2, a3, a4] g (fun v g2 => sp_AW M (d + 1) (pc + 3) L (sp_psh v st) g2 Q)) : sp_AW M (d + 1) pc L (a4 :: a3 :: a2 :: a1 :: a0 :: st) g Q := aw_callSn (as := [a0, a1, a2, a3, a4]) hd ho hw rfl rfl (Nat.le_of_ble_eq_true hc) k
theorem aw_V5 {a0 a1 a2 a3 a4 : sp_V} {ix o ci N : Nat} {T : u_T} {fl : List (Option Nat)} (hd : decode M.2.1 pc = .ok (.invokevirtual ix, 3)) (ho : sp_okV M2 5) (hw : Cond.methodLink M.1.cls ix M2.1 ∈ sp_T) (hs : sp_sh[o]? = some (.inl (ci, fl))) (hci : sp_cl[ci]? = some (M2.1.cls, T, N)) (hc : Nat.ble (st.map (fun v => if sp_c1 v = true then 1 else 2)).sum 8 = true) (k : sp_Met d M2 (v_r o :: [a0, a1, a2, a3, a4]) g (fun v g2 => sp_AW M (d + 1) (pc + 3) L (sp_psh v st) g2 Q)) : sp_AW M (d + 1) pc L (a4 :: a3 :: a2 :: a1 :: a0 :: v_r o :: st) g Q := aw_callV (as := [a0, a1, a2, a3, a4]) hd ho hw hs hci rfl rfl (Nat.le_of_ble_eq_true hc) k
theorem sp_mx1 : Cond.static Lib.Math.max.name ∈ sp_T := sp_inT (List.mem_of_getElem? (i := 355) (by decide +kernel)) (by decide +kernel)
theorem sp_mx2 : Cond.code Lib.Math.max.name Lib.Math.max.code 2 (some .int) ∈ sp_T := sp_inT (List.mem_of_getElem? (i := 356) (by decide +kernel)) (by decide +kernel)
theorem sp_mn1 : Cond.static Lib.Math.min.name ∈ sp_T := sp_inT (List.mem_of_getElem? (i := 281) (by decide +kernel)) (by decide +kernel)
theorem sp_mn2 : Cond.code Lib.Math.min.name Lib.Math.min.code 2 (some .int) ∈ sp_T := sp_inT (List.mem_of_getElem? (i := 282) (by decide +kernel)) (by decide +kernel)
theorem sp_mi : Cond.initialized "java/lang/Math" ∈ sp_T := sp_inT (List.mem_of_getElem? (i := 68) (by decide +kernel)) (by decide +kernel)
theorem sp_ac1 : Cond.static arraycopyName ∈ sp_T := sp_inT (List.mem_of_getElem? (i := 278) (by decide +kernel)) (by decide +kernel)
theorem sp_ac2 : Cond.native arraycopyName ∈ sp_T := sp_inT (List.mem_of_getElem? (i := 279) (by decide +kernel)) (by decide +kernel)
theorem sp_ac3 : Cond.initialized "java/lang/System" ∈ sp_T := sp_inT (List.mem_of_getElem? (i := 67) (by decide +kernel)) (by decide +kernel)
theorem lkX4_25 : Cond.methodLink RX4 25 arraycopyName ∈ sp_T := sp_inT (List.mem_of_getElem? (i := 277) (by decide +kernel)) (by decide +kernel)
theorem lkX1_27 : Cond.methodLink RX1 27 Lib.Math.min.name ∈ sp_T := sp_inT (List.mem_of_getElem? (i := 280) (by decide +kernel)) (by decide +kernel)
theorem lkX4_58 : Cond.methodLink RX4 58 Lib.Math.max.name ∈ sp_T := sp_inT (List.mem_of_getElem? (i := 354) (by decide +kernel)) (by decide +kernel)
theorem lkX5_249 : Cond.methodLink RX5 249 Lib.Math.max.name ∈ sp_T := sp_inT (List.mem_of_getElem? (i := 725) (by decide +kernel)) (by decide +kernel)
theorem lkX5_254 : Cond.methodLink RX5 254 Lib.Math.min.name ∈ sp_T := sp_inT (List.mem_of_getElem? (i := 726) (by decide +kernel)) (by decide +kernel)
theorem aw_mmax {x y : Int} {ix : Nat} (hd : decode M.2.1 pc = .ok (.invokestatic ix, 3)) (hw : Cond.methodLink M.1.cls ix Lib.Math.max.name ∈ sp_T) (hr : (-2147483648 ≤ x ∧ x < 2147483648) ∧ (-2147483648 ≤ y ∧ y < 2147483648)) (hc : Nat.ble (st.map (fun v => if sp_c1 v = true then 1 else 2)).sum 8 = true) (k : sp_AW M (d + 1) (pc + 3) L (v_i (if x < y then y else x) :: st) g Q) : sp_AW M (d + 1) pc L (v_i y :: v_i x :: st) g Q := by
  intro l D cA ad p e s m args below meth c C H locs ls hP hD hS hl
  have K := k l D cA ad p e s m args below meth c C H locs ls hP hD hS hl
  refine va_mmax C.1 C.2.1 (C.2.2.1.trans hl.1.symm) C.2.2.2.2.2.1 (C.2.2.2.2.2.2.1 _ (List.mem_cons_of_mem _ hw)) (C.2.2.2.2.2.2.1 _ (List.mem_cons_of_mem _ sp_mx1)) (C.2.2.2.2.2.2.1 _ (List.mem_cons_of_mem _ sp_mi)) (C.2.2.2.2.2.2.1 _ (List.mem_cons_of_mem _ sp_mx2)) (by simp only [sp_rm]; omega) (by have := sp_cat (ad := ad) (Nat.le_of_ble_eq_true hc); simp only [sp_rm]; omega) (Nat.le_refl _) (Nat.le_refl _) hd ?_
  have e : (if Int32.ofInt x < Int32.ofInt y then Int32.ofInt y else Int32.ofInt x) = Int32.ofInt (if x < y then y else x) := by
    by_cases h : x < y
    · rw [if_pos h, if_pos ((sp_lt (by omega)).mpr h)]
    · rw [if_neg h, if_neg (fun q => h ((sp_lt (by omega)).mp q))]
  rw [e]
  exact K
theorem aw_mmin {x y : Int} {ix : Nat} (hd : decode M.2.1 pc = .ok (.invokestatic ix, 3)) (hw : Cond.methodLink M.1.cls ix Lib.Math.min.name ∈ sp_T) (hr : (-2147483648 ≤ x ∧ x < 2147483648) ∧ (-2147483648 ≤ y ∧ y < 2147483648)) (hc : Nat.ble (st.map (fun v => if sp_c1 v = true then 1 else 2)).sum 8 = true) (k : sp_AW M (d + 1) (pc + 3) L (v_i (if y < x then y else x) :: st) g Q) : sp_AW M (d + 1) pc L (v_i y :: v_i x :: st) g Q := by
  intro l D cA ad p e s m args below meth c C H locs ls hP hD hS hl
  have K := k l D cA ad p e s m args below meth c C H locs ls hP hD hS hl
  refine va_mmin C.1 C.2.1 (C.2.2.1.trans hl.1.symm) C.2.2.2.2.2.1 (C.2.2.2.2.2.2.1 _ (List.mem_cons_of_mem _ hw)) (C.2.2.2.2.2.2.1 _ (List.mem_cons_of_mem _ sp_mn1)) (C.2.2.2.2.2.2.1 _ (List.mem_cons_of_mem _ sp_mi)) (C.2.2.2.2.2.2.1 _ (List.mem_cons_of_mem _ sp_mn2)) (by simp only [sp_rm]; omega) (by have := sp_cat (ad := ad) (Nat.le_of_ble_eq_true hc); simp only [sp_rm]; omega) (Nat.le_refl _) (Nat.le_refl _) hd ?_
  have e : (if Int32.ofInt y < Int32.ofInt x then Int32.ofInt y else Int32.ofInt x) = Int32.ofInt (if y < x then y else x) := by
    by_cases h : y < x
    · rw [if_pos h, if_pos ((sp_lt (by omega)).mpr h)]
    · rw [if_neg h, if_neg (fun q => h ((sp_lt (by omega)).mp q))]
  rw [e]
  exact K
theorem sp_WsetG {ad : Nat → Nat} {cA : Nat → ClassId} {g g2 : sp_G} {o : Nat} {s : sp_S} (h : sp_sh[o]? = some s) (hg : ∀ p, p ≠ o → ∀ j, g2 p j = g p j) : sp_W ad cA g2 = (sp_W ad cA g).set o (ad o, sp_ce ad cA g2 o s) := by
  have hce : ∀ (p : Nat) (t : sp_S), p ≠ o → sp_ce ad cA g2 p t = sp_ce ad cA g p t := by
    intro p t hp
    have e2 : sp_fv ad g2 p = sp_fv ad g p := by
      funext k f
      cases f with
      | none => simp [sp_fv, hg p hp]
      | some r => rfl
    match t with
    | .inl (ci, fl) => simp [sp_ce, e2]
    | .inr (k, n, none) => simp [sp_ce, hg p hp]
    | .inr (k, n, some f) => rfl
  apply List.ext_getElem?
  intro j
  by_cases hj : j = o
  · subst hj
    rw [sp_Wg _ h, List.getElem?_set_self]
    have := sp_Wg (ad := ad) (cA := cA) g h
    exact (List.getElem?_eq_some_iff.mp this).1
  · rw [List.getElem?_set_ne (fun e => hj e.symm)]
    simp only [sp_W, List.getElem?_mapIdx]
    cases hs : sp_sh[j]? with
    | none => simp
    | some t => simp [hce j t hj]
/-- row q becomes as row o, n places from 0 on -/
def sp_cp (g : sp_G) (o q : Nat) (n : Int) : sp_G := fun p j => if p = q then (if 0 ≤ j ∧ j < n then g o j else g p j) else g p j
theorem aw_copy {o q n0 n1 ix : Nat} {n : Int} (hd : decode M.2.1 pc = .ok (.invokestatic ix, 3)) (hw : Cond.methodLink M.1.cls ix arraycopyName ∈ sp_T) (ho : sp_sh[o]? = some (.inr (0, n0, none))) (hq : sp_sh[q]? = some (.inr (0, n1, none))) (hn : 0 ≤ n ∧ n ≤ n0 ∧ n ≤ n1) (hc : Nat.ble (st.map (fun v => if sp_c1 v = true then 1 else 2)).sum 8 = true) (k : sp_AW M (d + 1) (pc + 3) L st (sp_cp g o q n) Q) : sp_AW M (d + 1) pc L (v_i n :: v_i 0 :: v_r q :: v_i 0 :: v_r o :: st) g Q := by
  intro l D cA ad p e s m args below meth c C H locs ls hP hD hS hl
  have hb0 := sp_nlt ho _ _ _ rfl
  have hb1 := sp_nlt hq _ _ _ rfl
  have hcn : (Int32.ofInt n).toNatClampNeg = n.toNat := by rw [← Int32.toNat_toInt, sp_t (by omega)]
  have hc0 : (Int32.ofInt 0).toNatClampNeg = 0 := rfl
  have hnn : ¬ Int32.ofInt n < 0 := fun h => absurd ((sp_lt (x := n) (y := 0) (by omega)).mp h) (by omega)
  have hloc : ((st.map (sp_cv ad)).map fun v => v.category).sum + (nativeFrameWords "java/lang/System" "arraycopy" 5 + 11) ≤ (sp_rm (d + 1)).locals := by
    have h8 := sp_cat (ad := ad) (Nat.le_of_ble_eq_true hc)
    have e9 : nativeFrameWords "java/lang/System" "arraycopy" 5 ≤ 19 := by decide +kernel
    simp only [sp_rm]
    omega
  refine va_copyi (D := D) (sp := Int32.ofInt 0) (dp := Int32.ofInt 0) (n := Int32.ofInt n) C.1 C.2.1 (C.2.2.1.trans hl.1.symm) C.2.2.2.2.2.1 (C.2.2.2.2.2.2.1 _ (List.mem_cons_of_mem _ hw)) (C.2.2.2.2.2.2.1 _ (List.mem_cons_of_mem _ sp_ac2)) (C.2.2.2.2.2.2.1 _ (List.mem_cons_of_mem _ sp_ac1)) (C.2.2.2.2.2.2.1 _ (List.mem_cons_of_mem _ sp_ac3)) C.2.2.2.2.2.2.2.1 hP hD hS o q 0 0 (ty := .int) (sp_Wg g ho) (sp_Wg g hq) rfl rfl rfl (by decide) (by decide) hnn (by rw [hc0, hcn]; omega) (by rw [hc0, hcn]; omega) (fun i _ => rfl) (by simp only [sp_rm]; omega) hloc hd ?_
  intro H1 locs1 hP1 hD1 hS1
  have ee : (sp_W ad cA g).set q (ad q, .inl (cA 0, n1, .inl (va_cpy (fun j => Int32.ofInt (g o j)) (fun j => Int32.ofInt (g q j)) (Int32.ofInt 0).toNatClampNeg (Int32.ofInt 0).toNatClampNeg (Int32.ofInt n).toNatClampNeg))) = sp_W ad cA (sp_cp g o q n) := by
    rw [sp_WsetG (g := g) (g2 := sp_cp g o q n) hq (fun p hp j => by simp [sp_cp, hp])]
    congr 2
    simp only [sp_ce]
    congr 3
    apply congrArg
    funext j
    rw [hc0, hcn]
    simp only [va_cpy, sp_cp, if_true]
    by_cases hj : j < n.toNat
    · rw [if_pos (by omega), if_pos (by omega)]
      congr 2
      omega
    · rw [if_neg (by omega), if_neg (by omega)]
  rw [ee] at hP1 hD1
  exact k l D cA ad p e s m args below meth c C H1 locs1 ls hP1 hD1 hS1 hl
end CALLS
end
section
/-! pure words: sums, counts -/
def p_sum (f : Int → Int) : Nat → Int
  | 0 => 0
  | n + 1 => p_sum f n + f n
/-- the sum of f over 0 .. a - 1 -/
def sI (f : Int → Int) (a : Int) : Int := p_sum f a.toNat
theorem sI_0 (f : Int → Int) : sI f 0 = 0 := rfl
theorem sI_s (f : Int → Int) {a : Int} (h : 0 ≤ a) : sI f (a + 1) = sI f a + f a := by
  obtain ⟨n, rfl⟩ := Int.eq_ofNat_of_zero_le h
  have e : ((n : Int) + 1).toNat = n + 1 := by omega
  unfold sI
  rw [e]
  simp [p_sum]
theorem p_sum_c {f g : Int → Int} : ∀ {n : Nat}, (∀ i : Int, 0 ≤ i → i < n → f i = g i) → p_sum f n = p_sum g n
  | 0, _ => rfl
  | n + 1, h => by
    rw [p_sum, p_sum, p_sum_c (fun i h1 h2 => h i h1 (by omega)), h n (by omega) (by omega)]
theorem sI_c {f g : Int → Int} {a : Int} (h : ∀ i : Int, 0 ≤ i → i < a → f i = g i) : sI f a = sI g a := p_sum_c (fun i h1 h2 => h i h1 (by omega))
theorem p_sum_b {f : Int → Int} {lo hi : Int} : ∀ {n : Nat}, (∀ i : Int, 0 ≤ i → i < n → lo ≤ f i ∧ f i ≤ hi) → n * lo ≤ p_sum f n ∧ p_sum f n ≤ n * hi
  | 0, _ => by simp [p_sum]
  | n + 1, h => by
    have h1 := p_sum_b (f := f) (lo := lo) (hi := hi) (n := n) (fun i a b => h i a (by omega))
    have h2 := h n (by omega) (by omega)
    have e1 : ((n + 1 : Nat) : Int) * lo = n * lo + lo := by rw [Int.natCast_add, Int.add_mul]; simp
    have e2 : ((n + 1 : Nat) : Int) * hi = n * hi + hi := by rw [Int.natCast_add, Int.add_mul]; simp
    rw [p_sum, e1, e2]
    omega
theorem sI_b {f : Int → Int} {lo hi a : Int} (ha : 0 ≤ a) (h : ∀ i : Int, 0 ≤ i → i < a → lo ≤ f i ∧ f i ≤ hi) : a * lo ≤ sI f a ∧ sI f a ≤ a * hi := by
  have := p_sum_b (f := f) (lo := lo) (hi := hi) (n := a.toNat) (fun i h1 h2 => h i h1 (by omega))
  rw [Int.toNat_of_nonneg ha] at this
  exact this
theorem sI_01 {f : Int → Int} {a : Int} (ha : 0 ≤ a) (h : ∀ i : Int, 0 ≤ i → i < a → 0 ≤ f i ∧ f i ≤ 1) : 0 ≤ sI f a ∧ sI f a ≤ a := by
  have := sI_b (lo := 0) (hi := 1) ha h
  omega
theorem p_it {α : Sort _} {c : Prop} [Decidable c] {x y : α} {P : α → Prop} (h : P (if c then x else y)) (hc : c) : P x := by rwa [if_pos hc] at h
theorem p_ie {α : Sort _} {c : Prop} [Decidable c] {x y : α} {P : α → Prop} (h : P (if c then x else y)) (hc : ¬ c) : P y := by rwa [if_neg hc] at h
theorem p_bl (c : Prop) [Decidable c] : sp_bl c = 0 ∨ sp_bl c = 1 := by by_cases h : c <;> simp [sp_bl, h]
/-- the next of a turn -/
theorem p_turn {c n : Int} (hc : 0 ≤ c) (hn : 0 < n) : (if c % n + 1 < n then c % n + 1 else 0) = (c + 1) % n := by
  have h1 := Int.emod_nonneg c (by omega : n ≠ 0)
  have h2 := Int.emod_lt_of_pos c hn
  by_cases h : c % n + 1 < n
  · rw [if_pos h, Int.add_emod, Int.emod_eq_of_lt (a := 1) (by omega) (by omega), Int.emod_eq_of_lt (by omega) h]
  · rw [if_neg h]
    have e : c % n + 1 = n := by omega
    by_cases h3 : n = 1
    · subst h3; omega
    · rw [Int.add_emod, Int.emod_eq_of_lt (a := 1) (by omega) (by omega), e, Int.emod_self]
/-- rows that a method leaves as they were -/
def sp_fr (ids : List Nat) (g g2 : sp_G) : Prop := ∀ p : Nat, p ∉ ids → ∀ j : Int, g2 p j = g p j
theorem sp_fr.rf {ids : List Nat} {g : sp_G} : sp_fr ids g g := fun _ _ _ => rfl
theorem sp_fr.up {ids : List Nat} {g g2 : sp_G} {o : Nat} {i x : Int} (h : sp_fr ids g g2) (ho : o ∈ ids) : sp_fr ids g (sp_up g2 o i x) := fun p hp j => by
  have hne : p ≠ o := fun e => hp (by rw [e]; exact ho)
  rw [sp_up_o _ _ _ _ hne, h p hp j]
theorem sp_fr.tr {ids ids2 : List Nat} {g g2 g3 : sp_G} (h : sp_fr ids g g2) (h2 : sp_fr ids2 g2 g3) (hs : ∀ x ∈ ids2, x ∈ ids) : sp_fr ids g g3 := fun p hp j => by
  rw [h2 p (fun e => hp (hs p e)) j, h p hp j]
theorem sp_fr.wk {ids ids2 : List Nat} {g g2 : sp_G} (h : sp_fr ids g g2) (hs : ∀ x ∈ ids, x ∈ ids2) : sp_fr ids2 g g2 := fun p hp j => h p (fun e => hp (hs p e)) j
/-- a layer is on -/
def bt (on l : Int) : Int := sp_and (sp_shr on l) 1
/-- rows that are a town -/
def sp_isT (t : Nat) : Prop := sp_sh[t]? = some (.inl (4, [some (t + 1), some (t + 2), some (t + 3), none])) ∧ sp_sh[t + 1]? = some (.inr (0, 24, none)) ∧ sp_sh[t + 2]? = some (.inr (0, 96, none)) ∧ sp_sh[t + 3]? = some (.inr (0, 24, none))
theorem sp_isT_1 : sp_isT 1 := ⟨rfl, rfl, rfl, rfl⟩
theorem sp_isT_r {n : Nat} (h : n < 8) : sp_isT (7 + 4 * n) := by
  match n, h with
  | 0, _ => exact ⟨rfl, rfl, rfl, rfl⟩
  | 1, _ => exact ⟨rfl, rfl, rfl, rfl⟩
  | 2, _ => exact ⟨rfl, rfl, rfl, rfl⟩
  | 3, _ => exact ⟨rfl, rfl, rfl, rfl⟩
  | 4, _ => exact ⟨rfl, rfl, rfl, rfl⟩
  | 5, _ => exact ⟨rfl, rfl, rfl, rfl⟩
  | 6, _ => exact ⟨rfl, rfl, rfl, rfl⟩
  | 7, _ => exact ⟨rfl, rfl, rfl, rfl⟩
/-- a fact of numbers from 0 on, out of the counted ones -/
theorem p_all1 {P : Int → Prop} {n : Nat} (h : ∀ a : Nat, a < n → P a) {x : Int} (h0 : 0 ≤ x) (h1 : x < n) : P x := by
  have := h x.toNat (by omega)
  rwa [Int.toNat_of_nonneg h0] at this
theorem bt_all : ∀ on : Nat, on < 16 → ∀ l : Nat, l < 4 → bt on l = 0 ∨ bt on l = 1 := by decide +kernel
theorem bt_01 {on l : Int} (ho : 0 ≤ on ∧ on < 16) (hl : 0 ≤ l ∧ l < 4) : bt on l = 0 ∨ bt on l = 1 :=
  p_all1 (n := 4) (P := fun l => bt on l = 0 ∨ bt on l = 1) (fun a ha => p_all1 (n := 16) (P := fun on => bt on a = 0 ∨ bt on a = 1) (fun b hb => bt_all b hb a ha) ho.1 ho.2) hl.1 hl.2
/-- a layer switched -/
def sw (on l to : Int) : Int := if to = 1 then sp_or on (sp_shl 1 l) else sp_and on (sp_xor (sp_shl 1 l) (-1))
theorem sw_all : ∀ on : Nat, on < 16 → ∀ l : Nat, l < 4 → ∀ to : Nat, to < 2 → sw on l to = sp_or (sp_and on (sp_xor (sp_shl 1 l) (-1))) (sp_shl to l) ∧ 0 ≤ sw on l to ∧ sw on l to < 16 := by decide +kernel
theorem sw_eq {on l to : Int} (ho : 0 ≤ on ∧ on < 16) (hl : 0 ≤ l ∧ l < 4) (ht : 0 ≤ to ∧ to < 2) : sw on l to = sp_or (sp_and on (sp_xor (sp_shl 1 l) (-1))) (sp_shl to l) ∧ 0 ≤ sw on l to ∧ sw on l to < 16 :=
  p_all1 (n := 2) (P := fun to => sw on l to = sp_or (sp_and on (sp_xor (sp_shl 1 l) (-1))) (sp_shl to l) ∧ 0 ≤ sw on l to ∧ sw on l to < 16) (fun c hc => p_all1 (n := 4) (P := fun l => sw on l c = sp_or (sp_and on (sp_xor (sp_shl 1 l) (-1))) (sp_shl c l) ∧ 0 ≤ sw on l c ∧ sw on l c < 16) (fun a ha => p_all1 (n := 16) (P := fun on => sw on a c = sp_or (sp_and on (sp_xor (sp_shl 1 a) (-1))) (sp_shl c a) ∧ 0 ≤ sw on a c ∧ sw on a c < 16) (fun b hb => sw_all b hb a ha c hc) ho.1 ho.2) hl.1 hl.2) ht.1 ht.2
end
section
/-! a row holds a function, from a place on -/
def rH (g : sp_G) (row : Nat) (off n : Int) (f : Int → Int) : Prop := ∀ i j : Int, 0 ≤ i → i < n → j = off + i → g row j = f i
theorem rH.c {g : sp_G} {row : Nat} {off n : Int} {f f2 : Int → Int} (h : rH g row off n f) (e : ∀ i, 0 ≤ i → i < n → f i = f2 i) : rH g row off n f2 := fun i j h0 h1 h2 => by rw [h i j h0 h1 h2, e i h0 h1]
theorem rH.up {g : sp_G} {row : Nat} {off n : Int} {f : Int → Int} (h : rH g row off n f) {i j x : Int} (hj : j = off + i) : rH (sp_up g row j x) row off n (fun t => if t = i then x else f t) := fun t u h0 h1 h2 => by
  show sp_up g row j x row u = if t = i then x else f t
  by_cases ht : t = i
  · rw [if_pos ht, h2, ht, ← hj, sp_up_s]
  · rw [if_neg ht, sp_up_i _ _ _ _ (by omega), h t u h0 h1 h2]
theorem rH.ne {g : sp_G} {row row2 : Nat} {off n : Int} {f : Int → Int} (h : rH g row off n f) {j x : Int} (hr : row ≠ row2) : rH (sp_up g row2 j x) row off n f := fun t u h0 h1 h2 => by
  rw [sp_up_o _ _ _ _ hr, h t u h0 h1 h2]
theorem rH.out {g : sp_G} {row : Nat} {off n : Int} {f : Int → Int} (h : rH g row off n f) {j x : Int} (hj : j < off ∨ off + n ≤ j) : rH (sp_up g row j x) row off n f := fun t u h0 h1 h2 => by
  rw [sp_up_i _ _ _ _ (by omega), h t u h0 h1 h2]
theorem rH.fr {g g2 : sp_G} {ids : List Nat} {row : Nat} {off n : Int} {f : Int → Int} (h : rH g row off n f) (hf : sp_fr ids g g2) (hr : row ∉ ids) : rH g2 row off n f := fun t u h0 h1 h2 => by
  rw [hf row hr, h t u h0 h1 h2]
theorem sI_f {f : Int → Int} {x y : Int} (hx : 0 ≤ x) (hxy : x ≤ y) (h : ∀ i, x ≤ i → i < y → f i = 0) : sI f y = sI f x := by
  obtain ⟨k, rfl⟩ : ∃ k : Nat, y = x + k := ⟨(y - x).toNat, by omega⟩
  induction k with
  | zero => simp
  | succ k ih =>
    have e : x + ((k + 1 : Nat) : Int) = (x + k) + 1 := by omega
    rw [e, sI_s _ (by omega), ih (by omega) (fun i h1 h2 => h i h1 (by omega)), h (x + k) (by omega) (by omega)]
    omega
/-- a town's data: voters, districts, names, layers on -/
def tC (g : sp_G) (pe di na : Int → Int) (on : Int) : Prop := rH g 2 0 24 pe ∧ rH g 3 0 96 di ∧ rH g 4 0 24 na ∧ g 1 3 = on
def tM (g : sp_G) (pe di na : Int → Int) (on : Int) : Prop := rH g 53 0 24 pe ∧ rH g 53 24 96 di ∧ rH g 53 120 24 na ∧ g 53 144 = on
def tV (pe di na : Int → Int) (on : Int) : Prop := (∀ a, 0 ≤ a → a < 24 → 0 ≤ pe a ∧ pe a ≤ 99) ∧ (∀ i, 0 ≤ i → i < 96 → 0 ≤ di i ∧ di i ≤ 5) ∧ (∀ i, 0 ≤ i → i < 24 → 1 ≤ na i ∧ na i ≤ 8) ∧ 0 ≤ on ∧ on < 16
/-- a rectangle of blocks -/
abbrev inQ (a b k : Int) : Prop := a / 4 ≤ k / 4 ∧ k / 4 ≤ b / 4 ∧ a % 4 ≤ k % 4 ∧ k % 4 ≤ b % 4
def pr_F (l e a b : Int) (di : Int → Int) : Int → Int := fun k => if inQ a b k then (if di (l * 24 + k) = e then 0 else 1) else 0
def pr_D (l e a b : Int) (di : Int → Int) (m : Int) : Int → Int := fun i => if 0 ≤ i - l * 24 ∧ i - l * 24 < m ∧ inQ a b (i - l * 24) then e else di i
theorem pr_D_0 (l e a b : Int) (di : Int → Int) : pr_D l e a b di 0 = di := by
  funext i
  unfold pr_D
  rw [if_neg (by omega)]
theorem pr_D_s {l e a b : Int} {di : Int → Int} {m : Int} (hm : 0 ≤ m) (hi : inQ a b m) (t : Int) : (if t = l * 24 + m then e else pr_D l e a b di m t) = pr_D l e a b di (m + 1) t := by
  by_cases ht : t = l * 24 + m
  · subst ht
    have e1 : l * 24 + m - l * 24 = m := by omega
    simp only [pr_D, e1, if_pos]
    rw [if_pos ⟨hm, by omega, hi⟩]
  · rw [if_neg ht]
    unfold pr_D
    by_cases h : 0 ≤ t - l * 24 ∧ t - l * 24 < m ∧ inQ a b (t - l * 24)
    · rw [if_pos h, if_pos ⟨h.1, by omega, h.2.2⟩]
    · rw [if_neg h, if_neg (fun q => h ⟨q.1, by omega, q.2.2⟩)]
theorem pr_D_f {l e a b : Int} {di : Int → Int} {m m2 : Int} (hmm : m ≤ m2) (h : ∀ k, m ≤ k → k < m2 → ¬ inQ a b k) (t : Int) : pr_D l e a b di m t = pr_D l e a b di m2 t := by
  unfold pr_D
  by_cases hh : 0 ≤ t - l * 24 ∧ t - l * 24 < m ∧ inQ a b (t - l * 24)
  · rw [if_pos hh, if_pos ⟨hh.1, by omega, hh.2.2⟩]
  · rw [if_neg hh, if_neg]
    intro q
    by_cases hq : t - l * 24 < m
    · exact hh ⟨q.1, hq, q.2.2⟩
    · exact h _ (by omega) q.2.1 q.2.2
/-- what a walk over a rectangle has done up to block m -/
def pr_I (l e a b : Int) (di : Int → Int) (row : Nat) (off : Int) (g0 g : sp_G) (m many : Int) : Prop := many = sI (pr_F l e a b di) m ∧ sp_fr [row] g0 g ∧ rH g row off 96 (pr_D l e a b di m) ∧ ∀ j, (j < off ∨ off + 96 ≤ j) → g row j = g0 row j
/-- the numbers that draw a layer -/
def dX (seed : Int) : Nat → Int
  | 0 => seed
  | n + 1 => (dX seed n * 1103515245 + 12345) % 2147483648
def dXI (seed a : Int) : Int := dX seed a.toNat
theorem dXI_s {seed a : Int} (h : 0 ≤ a) : dXI seed (a + 1) = (dXI seed a * 1103515245 + 12345) % 2147483648 := by
  have e : (a + 1).toNat = a.toNat + 1 := by omega
  unfold dXI
  rw [e]
  rfl
theorem dX_b {seed : Int} (h : 0 ≤ seed ∧ seed < 2147483648) : ∀ n, 0 ≤ dX seed n ∧ dX seed n < 2147483648
  | 0 => h
  | n + 1 => by
    have := dX_b h n
    rw [dX]
    omega
theorem dXI_b {seed a : Int} (h : 0 ≤ seed ∧ seed < 2147483648) : 0 ≤ dXI seed a ∧ dXI seed a < 2147483648 := dX_b h _
def dr_d (seed n a : Int) : Int := dXI seed (a + 1) / 65536 % n
def dr_p (seed a : Int) : Int := dXI seed (a + 1) / 1024 % 30
theorem dr_d_b {seed n : Int} (a : Int) (hn : 1 ≤ n ∧ n ≤ 6) : 0 ≤ dr_d seed n a ∧ dr_d seed n a ≤ 5 := by
  have h1 := Int.emod_nonneg (dXI seed (a + 1) / 65536) (by omega : n ≠ 0)
  have h2 := Int.emod_lt_of_pos (dXI seed (a + 1) / 65536) (by omega : 0 < n)
  unfold dr_d
  omega
theorem dr_p_b {seed : Int} (a : Int) : 0 ≤ dr_p seed a ∧ dr_p seed a < 30 := by
  unfold dr_p
  omega
/-- a map that a layer follows -/
def fw (di : Int → Int) (l way k a : Int) : Int := if way = 0 then di (k * 24 + a) else if way = 1 then di (l * 24 + (a / 4 * 4 + 3 - a % 4)) else if way = 2 then di (l * 24 + (20 - a / 4 * 4 + a % 4)) else if di (l * 24 + a) < di (k * 24 + a) then di (k * 24 + a) else di (l * 24 + a)
/-- the first m blocks of a layer become as f says -/
def ly (l : Int) (f di : Int → Int) (m : Int) : Int → Int := fun i => if 0 ≤ i - l * 24 ∧ i - l * 24 < m then f (i - l * 24) else di i
theorem ly_0 (l : Int) (f di : Int → Int) : ly l f di 0 = di := by
  funext i
  unfold ly
  rw [if_neg (by omega)]
theorem ly_s {l : Int} {f di : Int → Int} {m : Int} (hm : 0 ≤ m) (t : Int) : (if t = l * 24 + m then f m else ly l f di m t) = ly l f di (m + 1) t := by
  by_cases ht : t = l * 24 + m
  · subst ht
    have e1 : l * 24 + m - l * 24 = m := by omega
    simp only [ly, e1, if_pos]
    rw [if_pos ⟨hm, by omega⟩]
  · rw [if_neg ht]
    unfold ly
    by_cases h : 0 ≤ t - l * 24 ∧ t - l * 24 < m
    · rw [if_pos h, if_pos ⟨h.1, by omega⟩]
    · rw [if_neg h, if_neg (fun q => h ⟨q.1, by omega⟩)]
theorem ly_at {l : Int} {f di : Int → Int} {m a : Int} (h : m ≤ a) : ly l f di m (l * 24 + a) = di (l * 24 + a) := by
  unfold ly
  rw [if_neg (by omega)]
/-- which of its district a block is, how it is turned -/
def rk (di : Int → Int) (l e a : Int) : Int := sI (fun b => if di (l * 24 + b) = e then 1 else 0) a
theorem rk_b {di : Int → Int} {l e a : Int} (h : 0 ≤ a) : 0 ≤ rk di l e a ∧ rk di l e a ≤ a := sI_01 h (fun i _ _ => by by_cases q : di (l * 24 + i) = e <;> simp [q])
theorem rk_s {di : Int → Int} {l e a : Int} (h : 0 ≤ a) : rk di l e (a + 1) = rk di l e a + (if di (l * 24 + a) = e then 1 else 0) := sI_s _ h
def led (pe di na : Int → Int) (l e n : Int) (v : Prop) [Decidable v] : Int → Int := fun a => if di (l * 24 + a) = e ∧ rk di l e a % na (l * 6 + e) = n then (if v then pe a else 1) else 0
end
section
theorem tX5_within (d : Nat) {v lo hi : Int} {g : sp_G} {Q : sp_P} (hr : ((-2147483648 ≤ v ∧ v < 2147483648)) ∧ ((-2147483648 ≤ lo ∧ lo < 2147483648)) ∧ ((-2147483648 ≤ hi ∧ hi < 2147483648))) (hQ : Q (some (v_i (sp_bl (lo ≤ v ∧ v ≤ hi)))) g) : sp_Met d mX5_within [v_i v, v_i lo, v_i hi] g Q := by
  refine sp_of (L := [_, _, _]) (by decide) (Nat.le_of_ble_eq_true rfl) rfl rfl ?_
  refine aw_iload_n dX5_within_0 rfl ?_
  refine aw_iload_n dX5_within_1 rfl ?_
  refine aw_icmp_lt (tg := 14) dX5_within_2 (by decide) (by omega) (fun h2 => ?_) (fun h2 => ?_)
  · refine aw_iconst dX5_within_14 ?_
    refine aw_zret dX5_within_15 rfl (by decide) ?_
    first | exact p_ie (P := fun z => Q (some (v_i z)) _) hQ (by omega) | exact p_it (P := fun z => Q (some (v_i z)) _) hQ (by omega)
  · refine aw_iload_n dX5_within_5 rfl ?_
    refine aw_iload_n dX5_within_6 rfl ?_
    refine aw_icmp_gt (tg := 14) dX5_within_7 (by decide) (by omega) (fun h7 => ?_) (fun h7 => ?_)
    · refine aw_iconst dX5_within_14 ?_
      refine aw_zret dX5_within_15 rfl (by decide) ?_
      first | exact p_ie (P := fun z => Q (some (v_i z)) _) hQ (by omega) | exact p_it (P := fun z => Q (some (v_i z)) _) hQ (by omega)
    · refine aw_iconst dX5_within_10 ?_
      refine aw_goto (tg := 15) dX5_within_11 (by decide) ?_
      refine aw_zret dX5_within_15 rfl (by decide) ?_
      first | exact p_ie (P := fun z => Q (some (v_i z)) _) hQ (by omega) | exact p_it (P := fun z => Q (some (v_i z)) _) hQ (by omega)
theorem tX5_isLayer (d : Nat) {l : Int} {g : sp_G} {Q : sp_P} (hr : (-2147483648 ≤ l ∧ l < 2147483648)) (hQ : Q (some (v_i (sp_bl (0 ≤ l ∧ l ≤ 3)))) g) : sp_Met (d + 1) mX5_isLayer [v_i l] g Q := by
  refine sp_of (L := [_]) (by decide) (Nat.le_of_ble_eq_true rfl) rfl rfl ?_
  refine aw_iload_n dX5_isLayer_0 rfl ?_
  refine aw_iconst dX5_isLayer_1 ?_
  refine aw_iconst dX5_isLayer_2 ?_
  refine aw_S3 dX5_isLayer_3 okX5_within lkX5_58 rfl ?_
  refine tX5_within d (by omega) ?_
  refine aw_zret dX5_isLayer_6 rfl (p_bl _) ?_
  exact hQ
theorem tX5_isDistrict (d : Nat) {l : Int} {g : sp_G} {Q : sp_P} (hr : (-2147483648 ≤ l ∧ l < 2147483648)) (hQ : Q (some (v_i (sp_bl (0 ≤ l ∧ l ≤ 5)))) g) : sp_Met (d + 1) mX5_isDistrict [v_i l] g Q := by
  refine sp_of (L := [_]) (by decide) (Nat.le_of_ble_eq_true rfl) rfl rfl ?_
  refine aw_iload_n dX5_isDistrict_0 rfl ?_
  refine aw_iconst dX5_isDistrict_1 ?_
  refine aw_iconst dX5_isDistrict_2 ?_
  refine aw_S3 dX5_isDistrict_3 okX5_within lkX5_58 rfl ?_
  refine tX5_within d (by omega) ?_
  refine aw_zret dX5_isDistrict_6 rfl (p_bl _) ?_
  exact hQ
theorem tX5_isBlock (d : Nat) {l : Int} {g : sp_G} {Q : sp_P} (hr : (-2147483648 ≤ l ∧ l < 2147483648)) (hQ : Q (some (v_i (sp_bl (0 ≤ l ∧ l ≤ 23)))) g) : sp_Met (d + 1) mX5_isBlock [v_i l] g Q := by
  refine sp_of (L := [_]) (by decide) (Nat.le_of_ble_eq_true rfl) rfl rfl ?_
  refine aw_iload_n dX5_isBlock_0 rfl ?_
  refine aw_iconst dX5_isBlock_1 ?_
  refine aw_bipush dX5_isBlock_2 (by decide) ?_
  refine aw_S3 dX5_isBlock_4 okX5_within lkX5_58 rfl ?_
  refine tX5_within d (by omega) ?_
  refine aw_zret dX5_isBlock_7 rfl (p_bl _) ?_
  exact hQ
theorem tX5_isName (d : Nat) {l : Int} {g : sp_G} {Q : sp_P} (hr : (-2147483648 ≤ l ∧ l < 2147483648)) (hQ : Q (some (v_i (sp_bl (0 ≤ l ∧ l ≤ 7)))) g) : sp_Met (d + 1) mX5_isName [v_i l] g Q := by
  refine sp_of (L := [_]) (by decide) (Nat.le_of_ble_eq_true rfl) rfl rfl ?_
  refine aw_iload_n dX5_isName_0 rfl ?_
  refine aw_iconst dX5_isName_1 ?_
  refine aw_bipush dX5_isName_2 (by decide) ?_
  refine aw_S3 dX5_isName_4 okX5_within lkX5_58 rfl ?_
  refine tX5_within d (by omega) ?_
  refine aw_zret dX5_isName_7 rfl (p_bl _) ?_
  exact hQ
theorem tX5_isRectangle (d : Nat) {a b : Int} {g : sp_G} {Q : sp_P} (hr : ((-2147483648 ≤ a ∧ a < 2147483648)) ∧ ((-2147483648 ≤ b ∧ b < 2147483648))) (hQ : Q (some (v_i (sp_bl ((0 ≤ a ∧ a ≤ 23) ∧ (0 ≤ b ∧ b ≤ 23) ∧ a / 4 ≤ b / 4 ∧ a % 4 ≤ b % 4)))) g) : sp_Met (d + 2) mX5_isRectangle [v_i a, v_i b] g Q := by
  refine sp_of (L := [_, _]) (by decide) (Nat.le_of_ble_eq_true rfl) rfl rfl ?_
  refine aw_iload_n dX5_isRectangle_0 rfl ?_
  refine aw_S1 dX5_isRectangle_1 okX5_isBlock lkX5_89 rfl ?_
  refine tX5_isBlock d (by omega) ?_
  refine aw_ifeq_b (tg := 36) dX5_isRectangle_4 (by decide) (fun h4 => ?_) (fun h4 => ?_)
  · refine aw_iconst dX5_isRectangle_36 ?_
    refine aw_zret dX5_isRectangle_37 rfl (by decide) ?_
    first | exact p_ie (P := fun z => Q (some (v_i z)) _) hQ (by omega) | exact p_it (P := fun z => Q (some (v_i z)) _) hQ (by omega)
  · refine aw_iload_n dX5_isRectangle_7 rfl ?_
    refine aw_S1 dX5_isRectangle_8 okX5_isBlock lkX5_89 rfl ?_
    refine tX5_isBlock d (by omega) ?_
    refine aw_ifeq_b (tg := 36) dX5_isRectangle_11 (by decide) (fun h11 => ?_) (fun h11 => ?_)
    · refine aw_iconst dX5_isRectangle_36 ?_
      refine aw_zret dX5_isRectangle_37 rfl (by decide) ?_
      first | exact p_ie (P := fun z => Q (some (v_i z)) _) hQ (by omega) | exact p_it (P := fun z => Q (some (v_i z)) _) hQ (by omega)
    · refine aw_iload_n dX5_isRectangle_14 rfl ?_
      refine aw_iconst dX5_isRectangle_15 ?_
      refine aw_idiv dX5_isRectangle_16 (by omega) ?_
      refine aw_iload_n dX5_isRectangle_17 rfl ?_
      refine aw_iconst dX5_isRectangle_18 ?_
      refine aw_idiv dX5_isRectangle_19 (by omega) ?_
      refine aw_icmp_gt (tg := 36) dX5_isRectangle_20 (by decide) (by omega) (fun h20 => ?_) (fun h20 => ?_)
      · refine aw_iconst dX5_isRectangle_36 ?_
        refine aw_zret dX5_isRectangle_37 rfl (by decide) ?_
        first | exact p_ie (P := fun z => Q (some (v_i z)) _) hQ (by omega) | exact p_it (P := fun z => Q (some (v_i z)) _) hQ (by omega)
      · refine aw_iload_n dX5_isRectangle_23 rfl ?_
        refine aw_iconst dX5_isRectangle_24 ?_
        refine aw_irem dX5_isRectangle_25 (by omega) ?_
        refine aw_iload_n dX5_isRectangle_26 rfl ?_
        refine aw_iconst dX5_isRectangle_27 ?_
        refine aw_irem dX5_isRectangle_28 (by omega) ?_
        refine aw_icmp_gt (tg := 36) dX5_isRectangle_29 (by decide) (by omega) (fun h29 => ?_) (fun h29 => ?_)
        · refine aw_iconst dX5_isRectangle_36 ?_
          refine aw_zret dX5_isRectangle_37 rfl (by decide) ?_
          first | exact p_ie (P := fun z => Q (some (v_i z)) _) hQ (by omega) | exact p_it (P := fun z => Q (some (v_i z)) _) hQ (by omega)
        · refine aw_iconst dX5_isRectangle_32 ?_
          refine aw_goto (tg := 37) dX5_isRectangle_33 (by decide) ?_
          refine aw_zret dX5_isRectangle_37 rfl (by decide) ?_
          first | exact p_ie (P := fun z => Q (some (v_i z)) _) hQ (by omega) | exact p_it (P := fun z => Q (some (v_i z)) _) hQ (by omega)
theorem tX4_isOn (d : Nat) {l : Int} {g : sp_G} {Q : sp_P} (hb : bt (g 1 3) l = 0 ∨ bt (g 1 3) l = 1) (hQ : Q (some (v_i (sp_bl (bt (g 1 3) l = 1)))) g) : sp_Met d mX4_isOn [v_r 1, v_i l] g Q := by
  refine sp_of (L := [_, _]) (by decide) (Nat.le_of_ble_eq_true rfl) rfl rfl ?_
  refine aw_aload_n dX4_isOn_0 rfl ?_
  refine aw_getI (kz := 3) dX4_isOn_1 flX4_21 rfl rfl rfl ?_
  refine aw_iload_n dX4_isOn_4 rfl ?_
  refine aw_ishr dX4_isOn_5 ?_
  refine aw_iconst dX4_isOn_6 ?_
  refine aw_iand dX4_isOn_7 ?_
  refine aw_iconst dX4_isOn_8 ?_
  refine aw_icmp_ne (tg := 16) dX4_isOn_9 (by decide) (by unfold bt at hb; omega) (fun h9 => ?_) (fun h9 => ?_)
  · refine aw_iconst dX4_isOn_16 ?_
    refine aw_zret dX4_isOn_17 rfl (by decide) ?_
    unfold bt at hQ hb
    first | exact p_ie (P := fun z => Q (some (v_i z)) _) hQ (by omega) | exact p_it (P := fun z => Q (some (v_i z)) _) hQ (by omega)
  · refine aw_iconst dX4_isOn_12 ?_
    refine aw_goto (tg := 17) dX4_isOn_13 (by decide) ?_
    refine aw_zret dX4_isOn_17 rfl (by decide) ?_
    unfold bt at hQ hb
    first | exact p_ie (P := fun z => Q (some (v_i z)) _) hQ (by omega) | exact p_it (P := fun z => Q (some (v_i z)) _) hQ (by omega)
theorem tX4_districtOf (d : Nat) {t : Nat} {l a : Int} {g : sp_G} {Q : sp_P} (hT : sp_isT t) (h : 0 ≤ l * 24 + a ∧ l * 24 + a < 96) (hQ : Q (some (v_i (g (t + 2) (l * 24 + a)))) g) : sp_Met d mX4_districtOf [v_r t, v_i l, v_i a] g Q := by
  refine sp_of (L := [_, _, _]) (by decide) (Nat.le_of_ble_eq_true rfl) rfl rfl ?_
  refine aw_aload_n dX4_districtOf_0 rfl ?_
  refine aw_getR dX4_districtOf_1 flX4_15 hT.1 rfl ?_
  refine aw_iload_n dX4_districtOf_4 rfl ?_
  refine aw_bipush dX4_districtOf_5 (by decide) ?_
  refine aw_imul dX4_districtOf_7 ?_
  refine aw_iload_n dX4_districtOf_8 rfl ?_
  refine aw_iadd dX4_districtOf_9 ?_
  refine aw_iald dX4_districtOf_10 hT.2.2.1 (by omega) ?_
  refine aw_iret dX4_districtOf_11 rfl ?_
  exact hQ
theorem tX4_namesOf (d : Nat) {l e : Int} {g : sp_G} {Q : sp_P} (h : 0 ≤ l * 6 + e ∧ l * 6 + e < 24) (hQ : Q (some (v_i (g 4 (l * 6 + e)))) g) : sp_Met d mX4_namesOf [v_r 1, v_i l, v_i e] g Q := by
  refine sp_of (L := [_, _, _]) (by decide) (Nat.le_of_ble_eq_true rfl) rfl rfl ?_
  refine aw_aload_n dX4_namesOf_0 rfl ?_
  refine aw_getR dX4_namesOf_1 flX4_18 rfl rfl ?_
  refine aw_iload_n dX4_namesOf_4 rfl ?_
  refine aw_bipush dX4_namesOf_5 (by decide) ?_
  refine aw_imul dX4_namesOf_7 ?_
  refine aw_iload_n dX4_namesOf_8 rfl ?_
  refine aw_iadd dX4_namesOf_9 ?_
  refine aw_iald dX4_namesOf_10 rfl (by omega) ?_
  refine aw_iret dX4_namesOf_11 rfl ?_
  exact hQ
theorem tX4_heightAt (d : Nat) {l a : Int} {g : sp_G} {Q : sp_P} (h : 0 ≤ l * 24 + a ∧ l * 24 + a < 96) (h2 : 0 ≤ l * 6 + g 3 (l * 24 + a) ∧ l * 6 + g 3 (l * 24 + a) < 24) (hQ : Q (some (v_i (2 + g 4 (l * 6 + g 3 (l * 24 + a))))) g) : sp_Met (d + 1) mX4_heightAt [v_r 1, v_i l, v_i a] g Q := by
  refine sp_of (L := [_, _, _]) (by decide) (Nat.le_of_ble_eq_true rfl) rfl rfl ?_
  refine aw_iconst dX4_heightAt_0 ?_
  refine aw_aload_n dX4_heightAt_1 rfl ?_
  refine aw_iload_n dX4_heightAt_2 rfl ?_
  refine aw_aload_n dX4_heightAt_3 rfl ?_
  refine aw_iload_n dX4_heightAt_4 rfl ?_
  refine aw_iload_n dX4_heightAt_5 rfl ?_
  refine aw_V2 dX4_heightAt_6 okX4_districtOf lkX4_31 rfl rfl rfl ?_
  refine tX4_districtOf d sp_isT_1 (by omega) ?_
  refine aw_V2 dX4_heightAt_9 okX4_namesOf lkX4_35 rfl rfl rfl ?_
  refine tX4_namesOf d h2 ?_
  refine aw_iadd dX4_heightAt_12 ?_
  refine aw_iret dX4_heightAt_13 rfl ?_
  exact hQ
theorem tX4_switchLayer (d : Nat) {l to : Int} {g : sp_G} {Q : sp_P} (hb : bt (g 1 3) l = 0 ∨ bt (g 1 3) l = 1) (ht : 0 ≤ to ∧ to ≤ 1) (hQ : Q (some (v_i (if bt (g 1 3) l = to then 0 else 1))) (sp_up g 1 3 (sw (g 1 3) l to))) : sp_Met d mX4_switchLayer [v_r 1, v_i l, v_i to] g Q := by
  refine sp_of (L := [_, _, _, _]) (by decide) (Nat.le_of_ble_eq_true rfl) rfl rfl ?_
  refine aw_aload_n dX4_switchLayer_0 rfl ?_
  refine aw_getI (kz := 3) dX4_switchLayer_1 flX4_21 rfl rfl rfl ?_
  refine aw_iload_n dX4_switchLayer_4 rfl ?_
  refine aw_ishr dX4_switchLayer_5 ?_
  refine aw_iconst dX4_switchLayer_6 ?_
  refine aw_iand dX4_switchLayer_7 ?_
  refine aw_istore_n (L2 := [_, _, _, _]) dX4_switchLayer_8 (by decide) rfl rfl ?_
  refine aw_aload_n dX4_switchLayer_9 rfl ?_
  refine aw_iload_n dX4_switchLayer_10 rfl ?_
  refine aw_iconst dX4_switchLayer_11 ?_
  refine aw_icmp_ne (tg := 26) dX4_switchLayer_12 (by decide) (by omega) (fun h12 => ?_) (fun h12 => ?_)
  · refine aw_aload_n dX4_switchLayer_26 rfl ?_
    refine aw_getI (kz := 3) dX4_switchLayer_27 flX4_21 rfl rfl rfl ?_
    refine aw_iconst dX4_switchLayer_30 ?_
    refine aw_iload_n dX4_switchLayer_31 rfl ?_
    refine aw_ishl dX4_switchLayer_32 ?_
    refine aw_iconst dX4_switchLayer_33 ?_
    refine aw_ixor dX4_switchLayer_34 ?_
    refine aw_iand dX4_switchLayer_35 ?_
    refine aw_putI (kz := 3) dX4_switchLayer_36 flX4_21 fi_4_3 rfl rfl rfl  ?_
    refine aw_iload_n dX4_switchLayer_39 rfl ?_
    refine aw_iload_n dX4_switchLayer_40 rfl ?_
    refine aw_icmp_ne (tg := 48) dX4_switchLayer_41 (by decide) (by unfold bt at hb; omega) (fun h41 => ?_) (fun h41 => ?_)
    · refine aw_iconst dX4_switchLayer_48 ?_
      refine aw_iret dX4_switchLayer_49 rfl ?_
      first | (subst h12; simpa [sw, bt, h41] using hQ) | simpa [sw, bt, h12, h41] using hQ
    · refine aw_iconst dX4_switchLayer_44 ?_
      refine aw_goto (tg := 49) dX4_switchLayer_45 (by decide) ?_
      refine aw_iret dX4_switchLayer_49 rfl ?_
      first | (subst h12; simpa [sw, bt, h41] using hQ) | simpa [sw, bt, h12, h41] using hQ
  · refine aw_aload_n dX4_switchLayer_15 rfl ?_
    refine aw_getI (kz := 3) dX4_switchLayer_16 flX4_21 rfl rfl rfl ?_
    refine aw_iconst dX4_switchLayer_19 ?_
    refine aw_iload_n dX4_switchLayer_20 rfl ?_
    refine aw_ishl dX4_switchLayer_21 ?_
    refine aw_ior dX4_switchLayer_22 ?_
    refine aw_goto (tg := 36) dX4_switchLayer_23 (by decide) ?_
    refine aw_putI (kz := 3) dX4_switchLayer_36 flX4_21 fi_4_3 rfl rfl rfl  ?_
    refine aw_iload_n dX4_switchLayer_39 rfl ?_
    refine aw_iload_n dX4_switchLayer_40 rfl ?_
    refine aw_icmp_ne (tg := 48) dX4_switchLayer_41 (by decide) (by unfold bt at hb; omega) (fun h41 => ?_) (fun h41 => ?_)
    · refine aw_iconst dX4_switchLayer_48 ?_
      refine aw_iret dX4_switchLayer_49 rfl ?_
      first | (subst h12; simpa [sw, bt, h41] using hQ) | simpa [sw, bt, h12, h41] using hQ
    · refine aw_iconst dX4_switchLayer_44 ?_
      refine aw_goto (tg := 49) dX4_switchLayer_45 (by decide) ?_
      refine aw_iret dX4_switchLayer_49 rfl ?_
      first | (subst h12; simpa [sw, bt, h41] using hQ) | simpa [sw, bt, h12, h41] using hQ
theorem tX4_setNames (d : Nat) {l e n : Int} {g : sp_G} {Q : sp_P} (h : 0 ≤ l * 6 + e ∧ l * 6 + e < 24) (hQ : Q (some (v_i (g 4 (l * 6 + e)))) (sp_up g 4 (l * 6 + e) n)) : sp_Met d mX4_setNames [v_r 1, v_i l, v_i e, v_i n] g Q := by
  refine sp_of (L := [_, _, _, _, _]) (by decide) (Nat.le_of_ble_eq_true rfl) rfl rfl ?_
  refine aw_aload_n dX4_setNames_0 rfl ?_
  refine aw_getR dX4_setNames_1 flX4_18 rfl rfl ?_
  refine aw_iload_n dX4_setNames_4 rfl ?_
  refine aw_bipush dX4_setNames_5 (by decide) ?_
  refine aw_imul dX4_setNames_7 ?_
  refine aw_iload_n dX4_setNames_8 rfl ?_
  refine aw_iadd dX4_setNames_9 ?_
  refine aw_iald dX4_setNames_10 rfl (by omega) ?_
  refine aw_istore (L2 := [_, _, _, _, _]) dX4_setNames_11 (by decide) rfl rfl ?_
  refine aw_aload_n dX4_setNames_13 rfl ?_
  refine aw_getR dX4_setNames_14 flX4_18 rfl rfl ?_
  refine aw_iload_n dX4_setNames_17 rfl ?_
  refine aw_bipush dX4_setNames_18 (by decide) ?_
  refine aw_imul dX4_setNames_20 ?_
  refine aw_iload_n dX4_setNames_21 rfl ?_
  refine aw_iadd dX4_setNames_22 ?_
  refine aw_iload_n dX4_setNames_23 rfl ?_
  refine aw_iast dX4_setNames_24 rfl (by omega) ?_
  refine aw_iload dX4_setNames_25 rfl ?_
  refine aw_iret dX4_setNames_27 rfl ?_
  exact hQ
theorem tX4_setVoters (d : Nat) {a n : Int} {g : sp_G} {Q : sp_P} (h : 0 ≤ a ∧ a < 24) (hQ : Q (some (v_i (g 2 a))) (sp_up g 2 a n)) : sp_Met d mX4_setVoters [v_r 1, v_i a, v_i n] g Q := by
  refine sp_of (L := [_, _, _, _]) (by decide) (Nat.le_of_ble_eq_true rfl) rfl rfl ?_
  refine aw_aload_n dX4_setVoters_0 rfl ?_
  refine aw_getR dX4_setVoters_1 flX4_9 rfl rfl ?_
  refine aw_iload_n dX4_setVoters_4 rfl ?_
  refine aw_iald dX4_setVoters_5 rfl (by omega) ?_
  refine aw_istore_n (L2 := [_, _, _, _]) dX4_setVoters_6 (by decide) rfl rfl ?_
  refine aw_aload_n dX4_setVoters_7 rfl ?_
  refine aw_getR dX4_setVoters_8 flX4_9 rfl rfl ?_
  refine aw_iload_n dX4_setVoters_11 rfl ?_
  refine aw_iload_n dX4_setVoters_12 rfl ?_
  refine aw_iast dX4_setVoters_13 rfl (by omega) ?_
  refine aw_iload_n dX4_setVoters_14 rfl ?_
  refine aw_iret dX4_setVoters_15 rfl ?_
  exact hQ
theorem tX4_setDistrict (d : Nat) {l a e : Int} {g : sp_G} {Q : sp_P} (h : 0 ≤ l * 24 + a ∧ l * 24 + a < 96) (hr : ((-2147483648 ≤ e ∧ e < 2147483648)) ∧ -2147483648 ≤ g 3 (l * 24 + a) ∧ g 3 (l * 24 + a) < 2147483648) (hQ : Q (some (v_i (if g 3 (l * 24 + a) = e then 0 else 1))) (sp_up g 3 (l * 24 + a) e)) : sp_Met d mX4_setDistrict [v_r 1, v_i l, v_i a, v_i e] g Q := by
  refine sp_of (L := [_, _, _, _, _]) (by decide) (Nat.le_of_ble_eq_true rfl) rfl rfl ?_
  refine aw_aload_n dX4_setDistrict_0 rfl ?_
  refine aw_getR dX4_setDistrict_1 flX4_15 rfl rfl ?_
  refine aw_iload_n dX4_setDistrict_4 rfl ?_
  refine aw_bipush dX4_setDistrict_5 (by decide) ?_
  refine aw_imul dX4_setDistrict_7 ?_
  refine aw_iload_n dX4_setDistrict_8 rfl ?_
  refine aw_iadd dX4_setDistrict_9 ?_
  refine aw_iald dX4_setDistrict_10 rfl (by omega) ?_
  refine aw_istore (L2 := [_, _, _, _, _]) dX4_setDistrict_11 (by decide) rfl rfl ?_
  refine aw_aload_n dX4_setDistrict_13 rfl ?_
  refine aw_getR dX4_setDistrict_14 flX4_15 rfl rfl ?_
  refine aw_iload_n dX4_setDistrict_17 rfl ?_
  refine aw_bipush dX4_setDistrict_18 (by decide) ?_
  refine aw_imul dX4_setDistrict_20 ?_
  refine aw_iload_n dX4_setDistrict_21 rfl ?_
  refine aw_iadd dX4_setDistrict_22 ?_
  refine aw_iload_n dX4_setDistrict_23 rfl ?_
  refine aw_iast dX4_setDistrict_24 rfl (by omega) ?_
  refine aw_iload dX4_setDistrict_25 rfl ?_
  refine aw_iload_n dX4_setDistrict_27 rfl ?_
  refine aw_icmp_ne (tg := 35) dX4_setDistrict_28 (by decide) (by omega) (fun h28 => ?_) (fun h28 => ?_)
  · refine aw_iconst dX4_setDistrict_35 ?_
    refine aw_iret dX4_setDistrict_36 rfl ?_
    first | exact p_ie (P := fun z => Q (some (v_i z)) _) hQ (by omega) | exact p_it (P := fun z => Q (some (v_i z)) _) hQ (by omega)
  · refine aw_iconst dX4_setDistrict_31 ?_
    refine aw_goto (tg := 36) dX4_setDistrict_32 (by decide) ?_
    refine aw_iret dX4_setDistrict_36 rfl ?_
    first | exact p_ie (P := fun z => Q (some (v_i z)) _) hQ (by omega) | exact p_it (P := fun z => Q (some (v_i z)) _) hQ (by omega)
theorem tX4_nextLeader (d : Nat) {l e n : Int} {g : sp_G} {Q : sp_P} (h : 0 ≤ l * 6 + e ∧ l * 6 + e < 24) (hr : (-2147483648 ≤ n + 1 ∧ n + 1 < 2147483648) ∧ -2147483648 ≤ g 4 (l * 6 + e) ∧ g 4 (l * 6 + e) < 2147483648) (hQ : Q (some (v_i (if n + 1 < g 4 (l * 6 + e) then n + 1 else 0))) g) : sp_Met (d + 1) mX4_nextLeader [v_r 1, v_i l, v_i e, v_i n] g Q := by
  refine sp_of (L := [_, _, _, _]) (by decide) (Nat.le_of_ble_eq_true rfl) rfl rfl ?_
  refine aw_iload_n dX4_nextLeader_0 rfl ?_
  refine aw_iconst dX4_nextLeader_1 ?_
  refine aw_iadd dX4_nextLeader_2 ?_
  refine aw_aload_n dX4_nextLeader_3 rfl ?_
  refine aw_iload_n dX4_nextLeader_4 rfl ?_
  refine aw_iload_n dX4_nextLeader_5 rfl ?_
  refine aw_V2 dX4_nextLeader_6 okX4_namesOf lkX4_35 rfl rfl rfl ?_
  refine tX4_namesOf d h ?_
  refine aw_icmp_ge (tg := 18) dX4_nextLeader_9 (by decide) (by omega) (fun h9 => ?_) (fun h9 => ?_)
  · refine aw_iconst dX4_nextLeader_18 ?_
    refine aw_iret dX4_nextLeader_19 rfl ?_
    first | exact p_ie (P := fun z => Q (some (v_i z)) _) hQ (by omega) | exact p_it (P := fun z => Q (some (v_i z)) _) hQ (by omega)
  · refine aw_iload_n dX4_nextLeader_12 rfl ?_
    refine aw_iconst dX4_nextLeader_13 ?_
    refine aw_iadd dX4_nextLeader_14 ?_
    refine aw_goto (tg := 19) dX4_nextLeader_15 (by decide) ?_
    refine aw_iret dX4_nextLeader_19 rfl ?_
    first | exact p_ie (P := fun z => Q (some (v_i z)) _) hQ (by omega) | exact p_it (P := fun z => Q (some (v_i z)) _) hQ (by omega)
end
section
theorem tX4_districtOf_d (d : Nat) {di : Int → Int} {l a : Int} {g : sp_G} {Q : sp_P} (hdi : rH g 3 0 96 di) (h : 0 ≤ l * 24 + a ∧ l * 24 + a < 96) (hQ : Q (some (v_i (di (l * 24 + a)))) g) : sp_Met d mX4_districtOf [v_r 1, v_i l, v_i a] g Q := by
  exact tX4_districtOf d sp_isT_1 h (by rw [hdi (l * 24 + a) _ h.1 h.2 (by omega)]; exact hQ)
theorem tX4_namesOf_d (d : Nat) {na : Int → Int} {l e : Int} {g : sp_G} {Q : sp_P} (hna : rH g 4 0 24 na) (h : 0 ≤ l * 6 + e ∧ l * 6 + e < 24) (hQ : Q (some (v_i (na (l * 6 + e)))) g) : sp_Met d mX4_namesOf [v_r 1, v_i l, v_i e] g Q := by
  exact tX4_namesOf d h (by rw [hna (l * 6 + e) _ h.1 h.2 (by omega)]; exact hQ)
theorem tX4_nextLeader_d (d : Nat) {na : Int → Int} {l e n : Int} {g : sp_G} {Q : sp_P} (hna : rH g 4 0 24 na) (h : 0 ≤ l * 6 + e ∧ l * 6 + e < 24) (hn : 0 ≤ n ∧ n < 100 ∧ 0 ≤ na (l * 6 + e) ∧ na (l * 6 + e) < 100) (hQ : Q (some (v_i (if n + 1 < na (l * 6 + e) then n + 1 else 0))) g) : sp_Met (d + 1) mX4_nextLeader [v_r 1, v_i l, v_i e, v_i n] g Q := by
  have e9 := hna (l * 6 + e) (l * 6 + e) h.1 h.2 (by omega)
  exact tX4_nextLeader d h (by omega) (by rw [e9]; exact hQ)
theorem lX4_putR_in (d : Nat) {l e a b : Int} {di : Int → Int} {g0 : sp_G} {Q : sp_P} (hl : 0 ≤ l ∧ l ≤ 3) (he : 0 ≤ e ∧ e ≤ 5) (ha : 0 ≤ a ∧ a ≤ 23) (hb : 0 ≤ b ∧ b ≤ 23) (hv : ∀ i, 0 ≤ i → i < 96 → 0 ≤ di i ∧ di i ≤ 5) {r : Int} (hr : a / 4 ≤ r ∧ r ≤ b / 4) (hab : a % 4 ≤ b % 4)
    (hk : ∀ (c many : Int) (g : sp_G), pr_I l e a b di 3 0 g0 g (4 * r + b % 4 + 1) many → sp_AW mX4_putRectangle (d + 1) 55 [some (v_r 1), some (v_i l), some (v_i e), some (v_i a), some (v_i b), some (v_i many), some (v_i r), some (v_i c)] [] g Q) :
    ∀ (k : Nat) (c many : Int) (g : sp_G), a % 4 ≤ c → c + k = b % 4 + 1 → pr_I l e a b di 3 0 g0 g (4 * r + c) many → sp_AW mX4_putRectangle (d + 1) 22 [some (v_r 1), some (v_i l), some (v_i e), some (v_i a), some (v_i b), some (v_i many), some (v_i r), some (v_i c)] [] g Q := by
  intro k
  induction k with
  | zero =>
    intro c many g hc hck hI
    have ec : c = b % 4 + 1 := by omega
    rw [ec, show 4 * r + (b % 4 + 1) = 4 * r + b % 4 + 1 by omega] at hI
    refine aw_iload dX4_putRectangle_22 rfl ?_
    refine aw_iload dX4_putRectangle_24 rfl ?_
    refine aw_iconst dX4_putRectangle_26 ?_
    refine aw_irem dX4_putRectangle_27 (by omega) ?_
    refine aw_icmp_gt (tg := 55) dX4_putRectangle_28 (by decide) (by omega) (fun h28 => ?_) (fun h28 => absurd h28 (by omega))
    exact hk c many g hI
  | succ k ih =>
    intro c many g hc hck hI
    obtain ⟨i1, i2, i3, i4⟩ := hI
    have hcur : g 3 (l * 24 + (4 * r + c)) = di (l * 24 + (4 * r + c)) := by
      rw [i3 (l * 24 + (4 * r + c)) _ (by omega) (by omega) (by omega)]
      unfold pr_D
      rw [if_neg (by omega)]
    have hdv := hv (l * 24 + (4 * r + c)) (by omega) (by omega)
    have hq : inQ a b (4 * r + c) := by unfold inQ; omega
    refine aw_iload dX4_putRectangle_22 rfl ?_
    refine aw_iload dX4_putRectangle_24 rfl ?_
    refine aw_iconst dX4_putRectangle_26 ?_
    refine aw_irem dX4_putRectangle_27 (by omega) ?_
    refine aw_icmp_gt (tg := 55) dX4_putRectangle_28 (by decide) (by omega) (fun h28 => absurd h28 (by omega)) (fun h28 => ?_)
    refine aw_iload dX4_putRectangle_31 rfl ?_
    refine aw_aload_n dX4_putRectangle_33 rfl ?_
    refine aw_iload_n dX4_putRectangle_34 rfl ?_
    refine aw_iconst dX4_putRectangle_35 ?_
    refine aw_iload dX4_putRectangle_36 rfl ?_
    refine aw_imul dX4_putRectangle_38 ?_
    refine aw_iload dX4_putRectangle_39 rfl ?_
    refine aw_iadd dX4_putRectangle_41 ?_
    refine aw_iload_n dX4_putRectangle_42 rfl ?_
    refine aw_V3 dX4_putRectangle_43 okX4_setDistrict lkX4_38 rfl rfl rfl ?_
    refine tX4_setDistrict d (by omega) (by rw [hcur]; omega) ?_
    refine aw_iadd dX4_putRectangle_46 ?_
    refine aw_istore (L2 := [_, _, _, _, _, _, _, _]) dX4_putRectangle_47 (by decide) rfl rfl ?_
    refine aw_iinc (L2 := [_, _, _, _, _, _, _, _]) dX4_putRectangle_49 rfl (by decide) rfl rfl ?_
    refine aw_goto (tg := 22) dX4_putRectangle_52 (by decide) ?_
    refine ih _ _ _ (by omega) (by omega) ⟨?_, i2.up (by decide), ?_, fun j hj => ?_⟩
    · rw [hcur, i1, show 4 * r + (c + 1) = (4 * r + c) + 1 by omega, sI_s _ (by omega)]
      rw [show pr_F l e a b di (4 * r + c) = (if di (l * 24 + (4 * r + c)) = e then 0 else 1) from if_pos hq]
    · refine (i3.up (i := l * 24 + (4 * r + c)) (by omega)).c (fun t _ _ => ?_)
      rw [pr_D_s (by omega) hq, show 4 * r + (c + 1) = (4 * r + c) + 1 by omega]
    · rw [sp_up_i _ _ _ _ (by omega), i4 j hj]
theorem lX4_putR (d : Nat) {l e a b : Int} {di : Int → Int} {g0 : sp_G} {Q : sp_P} (hl : 0 ≤ l ∧ l ≤ 3) (he : 0 ≤ e ∧ e ≤ 5) (ha : 0 ≤ a ∧ a ≤ 23) (hb : 0 ≤ b ∧ b ≤ 23) (hv : ∀ i, 0 ≤ i → i < 96 → 0 ≤ di i ∧ di i ≤ 5) (hab : a % 4 ≤ b % 4)
    (hQ : ∀ (many : Int) (g : sp_G), pr_I l e a b di 3 0 g0 g 24 many → Q (some (v_i many)) g) :
    ∀ (k : Nat) (r many : Int) (cc : Option sp_V) (g : sp_G), a / 4 ≤ r → r + k = b / 4 + 1 → pr_I l e a b di 3 0 g0 g (4 * r) many → sp_nl cc = true → sp_AW mX4_putRectangle (d + 1) 8 [some (v_r 1), some (v_i l), some (v_i e), some (v_i a), some (v_i b), some (v_i many), some (v_i r), cc] [] g Q := by
  intro k
  induction k with
  | zero =>
    intro r many cc g hr hrk hI hcc
    refine aw_iload dX4_putRectangle_8 rfl ?_
    refine aw_iload dX4_putRectangle_10 rfl ?_
    refine aw_iconst dX4_putRectangle_12 ?_
    refine aw_idiv dX4_putRectangle_13 (by omega) ?_
    refine aw_icmp_gt (tg := 61) dX4_putRectangle_14 (by decide) (by omega) (fun h14 => ?_) (fun h14 => absurd h14 (by omega))
    refine aw_iload dX4_putRectangle_61 rfl ?_
    refine aw_iret dX4_putRectangle_63 rfl ?_
    obtain ⟨i1, i2, i3, i4⟩ := hI
    refine hQ many g ⟨?_, i2, i3.c (fun t h0 h1 => pr_D_f (by omega) (fun q h2 h3 => by unfold inQ; omega) t), i4⟩
    rw [i1, ← sI_f (f := pr_F l e a b di) (x := 4 * r) (y := 24) (by omega) (by omega) (fun i h1 h2 => by unfold pr_F; rw [if_neg (by unfold inQ; omega)])]
  | succ k ih =>
    intro r many cc g hr hrk hI hcc
    refine aw_iload dX4_putRectangle_8 rfl ?_
    refine aw_iload dX4_putRectangle_10 rfl ?_
    refine aw_iconst dX4_putRectangle_12 ?_
    refine aw_idiv dX4_putRectangle_13 (by omega) ?_
    refine aw_icmp_gt (tg := 61) dX4_putRectangle_14 (by decide) (by omega) (fun h14 => absurd h14 (by omega)) (fun h14 => ?_)
    refine aw_iload_n dX4_putRectangle_17 rfl ?_
    refine aw_iconst dX4_putRectangle_18 ?_
    refine aw_irem dX4_putRectangle_19 (by omega) ?_
    refine aw_istore (L2 := [_, _, _, _, _, _, _, _]) dX4_putRectangle_20 (by decide) rfl rfl ?_
    refine lX4_putR_in (g0 := g0) d hl he ha hb hv (by omega) hab (fun c many g hI => ?_) (b % 4 + 1 - a % 4).toNat (a % 4) many g (by omega) (by omega) ?_
    · refine aw_iinc (L2 := [_, _, _, _, _, _, _, _]) dX4_putRectangle_55 rfl (by decide) rfl rfl ?_
      refine aw_goto (tg := 8) dX4_putRectangle_58 (by decide) ?_
      obtain ⟨i1, i2, i3, i4⟩ := hI
      refine ih _ _ _ _ (by omega) (by omega) ⟨?_, i2, i3.c (fun t h0 h1 => pr_D_f (by omega) (fun q h2 h3 => by unfold inQ; omega) t), i4⟩ rfl
      rw [i1, ← sI_f (f := pr_F l e a b di) (x := 4 * r + b % 4 + 1) (y := 4 * (r + 1)) (by omega) (by omega) (fun i h1 h2 => by unfold pr_F; rw [if_neg (by unfold inQ; omega)])]
    · obtain ⟨i1, i2, i3, i4⟩ := hI
      refine ⟨?_, i2, i3.c (fun t h0 h1 => pr_D_f (by omega) (fun q h2 h3 => by unfold inQ; omega) t), i4⟩
      rw [i1, ← sI_f (f := pr_F l e a b di) (x := 4 * r) (y := 4 * r + a % 4) (by omega) (by omega) (fun i h1 h2 => by unfold pr_F; rw [if_neg (by unfold inQ; omega)])]
theorem tX4_putRectangle (d : Nat) {di : Int → Int} {l e a b : Int} {g : sp_G} {Q : sp_P} (hl : 0 ≤ l ∧ l ≤ 3) (he : 0 ≤ e ∧ e ≤ 5) (ha : 0 ≤ a ∧ a ≤ 23) (hb : 0 ≤ b ∧ b ≤ 23) (hv : ∀ i, 0 ≤ i → i < 96 → 0 ≤ di i ∧ di i ≤ 5) (hab : a / 4 ≤ b / 4 ∧ a % 4 ≤ b % 4) (hdi : rH g 3 0 96 di) (hQ : ∀ (many : Int) (g2 : sp_G), pr_I l e a b di 3 0 g g2 24 many → Q (some (v_i many)) g2) : sp_Met (d + 1) mX4_putRectangle [v_r 1, v_i l, v_i e, v_i a, v_i b] g Q := by
  refine sp_of (L := [_, _, _, _, _, _, _, _]) (by decide) (Nat.le_of_ble_eq_true rfl) rfl rfl ?_
  refine aw_iconst dX4_putRectangle_0 ?_
  refine aw_istore (L2 := [_, _, _, _, _, _, _, _]) dX4_putRectangle_1 (by decide) rfl rfl ?_
  refine aw_iload_n dX4_putRectangle_3 rfl ?_
  refine aw_iconst dX4_putRectangle_4 ?_
  refine aw_idiv dX4_putRectangle_5 (by omega) ?_
  refine aw_istore (L2 := [_, _, _, _, _, _, _, _]) dX4_putRectangle_6 (by decide) rfl rfl ?_
  refine lX4_putR d hl he ha hb hv hab.2 hQ (b / 4 + 1 - a / 4).toNat _ _ _ _ (by omega) (by omega) ⟨?_, sp_fr.rf, hdi.c (fun t h0 h1 => ?_), fun j hj => rfl⟩ rfl
  · rw [sI_f (f := pr_F l e a b di) (x := 0) (y := 4 * (a / 4)) (by omega) (by omega) (fun i h1 h2 => by unfold pr_F; rw [if_neg (by unfold inQ; omega)])]
    rfl
  · rw [← pr_D_f (m := 0) (by omega) (fun q h2 h3 => by unfold inQ; omega) t, pr_D_0]
theorem lX4_draw (d : Nat) {l sd n : Int} {pe di : Int → Int} {g0 : sp_G} {Q : sp_P} (hl : 0 ≤ l ∧ l ≤ 3) (hs : 0 ≤ sd ∧ sd < 2147483648) (hn : 1 ≤ n ∧ n ≤ 6) (hv : ∀ i, 0 ≤ i → i < 96 → 0 ≤ di i ∧ di i ≤ 5)
    (hQ : ∀ g : sp_G, sp_fr [2, 3] g0 g → rH g 2 0 24 (dr_p sd) → rH g 3 0 96 (ly l (dr_d sd n) di 24) → Q (some (v_i (sI (dr_p sd) 24))) g) :
    ∀ (k : Nat) (a x all : Int) (g : sp_G), 0 ≤ a → a + k = 24 → x = dXI sd a → all = sI (dr_p sd) a → sp_fr [2, 3] g0 g → rH g 2 0 24 (fun i => if i < a then dr_p sd i else pe i) → rH g 3 0 96 (ly l (dr_d sd n) di a) → sp_AW mX4_drawLayer (d + 1) 10 [some (v_r 1), some (v_i l), some (v_i sd), some (v_i n), some (v_l x), none, some (v_i all), some (v_i a)] [] g Q := by
  intro k
  induction k with
  | zero =>
    intro a x all g h0 hk ex eall hf hp hd
    have ea : a = 24 := by omega
    subst ea
    refine aw_iload dX4_drawLayer_10 rfl ?_
    refine aw_bipush dX4_drawLayer_12 (by decide) ?_
    refine aw_icmp_ge (tg := 87) dX4_drawLayer_14 (by decide) (by omega) (fun h14 => ?_) (fun h14 => absurd h14 (by omega))
    refine aw_iload dX4_drawLayer_87 rfl ?_
    refine aw_iret dX4_drawLayer_89 rfl ?_
    rw [eall]
    exact hQ g hf (hp.c (fun i h1 h2 => if_pos h2)) hd
  | succ k ih =>
    intro a x all g h0 hk ex eall hf hp hd
    have hxb := dXI_b (seed := sd) (a := a) hs
    have hxs := dXI_s (seed := sd) h0
    have hxb2 := dXI_b (seed := sd) (a := a + 1) hs
    rw [← ex] at hxs hxb
    rw [hxs] at hxb2
    have hdd := dr_d_b (seed := sd) (n := n) a hn
    have hpp := dr_p_b (seed := sd) a
    have ed : (x * 1103515245 + 12345) % 2147483648 / 65536 % n = dr_d sd n a := by unfold dr_d; rw [hxs]
    have ep : (x * 1103515245 + 12345) % 2147483648 / 1024 % 30 = dr_p sd a := by unfold dr_p; rw [hxs]
    have hcur : g 3 (l * 24 + a) = di (l * 24 + a) := by rw [hd (l * 24 + a) _ (by omega) (by omega) (by omega), ly_at (by omega)]
    have hdv := hv (l * 24 + a) (by omega) (by omega)
    refine aw_iload dX4_drawLayer_10 rfl ?_
    refine aw_bipush dX4_drawLayer_12 (by decide) ?_
    refine aw_icmp_ge (tg := 87) dX4_drawLayer_14 (by decide) (by omega) (fun h14 => absurd h14 (by omega)) (fun h14 => ?_)
    refine aw_lload dX4_drawLayer_17 rfl ?_
    refine aw_ldc2 dX4_drawLayer_19 kcX4_42 ?_
    refine aw_lmul dX4_drawLayer_22 ?_
    refine aw_ldc2 dX4_drawLayer_23 kcX4_44 ?_
    refine aw_ladd dX4_drawLayer_26 ?_
    refine aw_ldc2 dX4_drawLayer_27 kcX4_46 ?_
    refine aw_lrem dX4_drawLayer_30 (by omega) ?_
    refine aw_lstore (L2 := [_, _, _, _, _, _, _, _]) dX4_drawLayer_31 (by decide) rfl rfl ?_
    refine aw_aload_n dX4_drawLayer_33 rfl ?_
    refine aw_iload_n dX4_drawLayer_34 rfl ?_
    refine aw_iload dX4_drawLayer_35 rfl ?_
    refine aw_lload dX4_drawLayer_37 rfl ?_
    refine aw_ldc2 dX4_drawLayer_39 kcX4_48 ?_
    refine aw_ldiv dX4_drawLayer_42 (by omega) ?_
    refine aw_iload_n dX4_drawLayer_43 rfl ?_
    refine aw_i2l dX4_drawLayer_44 (by omega) ?_
    refine aw_lrem dX4_drawLayer_45 (by omega) ?_
    refine aw_l2i dX4_drawLayer_46 ?_
    rw [ed]
    refine aw_V3 dX4_drawLayer_47 okX4_setDistrict lkX4_38 rfl rfl rfl ?_
    refine tX4_setDistrict d (by omega) (by rw [hcur]; omega) ?_
    refine aw_pop dX4_drawLayer_50 rfl ?_
    refine aw_aload_n dX4_drawLayer_51 rfl ?_
    refine aw_getR dX4_drawLayer_52 flX4_9 rfl rfl ?_
    refine aw_iload dX4_drawLayer_55 rfl ?_
    refine aw_lload dX4_drawLayer_57 rfl ?_
    refine aw_ldc2 dX4_drawLayer_59 kcX4_50 ?_
    refine aw_ldiv dX4_drawLayer_62 (by omega) ?_
    refine aw_ldc2 dX4_drawLayer_63 kcX4_52 ?_
    refine aw_lrem dX4_drawLayer_66 (by omega) ?_
    refine aw_l2i dX4_drawLayer_67 ?_
    rw [ep]
    refine aw_iast dX4_drawLayer_68 rfl (by omega) ?_
    refine aw_iload dX4_drawLayer_69 rfl ?_
    refine aw_aload_n dX4_drawLayer_71 rfl ?_
    refine aw_getR dX4_drawLayer_72 flX4_9 rfl rfl ?_
    refine aw_iload dX4_drawLayer_75 rfl ?_
    refine aw_iald dX4_drawLayer_77 rfl (by omega) ?_
    rw [sp_up_s]
    refine aw_iadd dX4_drawLayer_78 ?_
    refine aw_istore (L2 := [_, _, _, _, _, _, _, _]) dX4_drawLayer_79 (by decide) rfl rfl ?_
    refine aw_iinc (L2 := [_, _, _, _, _, _, _, _]) dX4_drawLayer_81 rfl (by decide) rfl rfl ?_
    refine aw_goto (tg := 10) dX4_drawLayer_84 (by decide) ?_
    refine ih (a + 1) _ _ _ (by omega) (by omega) hxs.symm ?_ ((hf.up (by decide)).up (by decide)) ?_ ?_
    · rw [eall, sI_s _ h0]
    · refine ((hp.ne (by decide)).up (i := a) (by omega)).c (fun t h1 h2 => ?_)
      by_cases ht : t = a
      · rw [if_pos ht, if_pos (by omega), ht]
      · rw [if_neg ht]
        by_cases h3 : t < a
        · rw [if_pos h3, if_pos (by omega)]
        · rw [if_neg h3, if_neg (by omega)]
    · exact ((hd.up (i := l * 24 + a) (by omega)).c (fun t _ _ => ly_s h0 t)).ne (by decide)
theorem tX4_drawLayer (d : Nat) {pe di : Int → Int} {l sd n : Int} {g : sp_G} {Q : sp_P} (hl : 0 ≤ l ∧ l ≤ 3) (hs : 0 ≤ sd ∧ sd ≤ 999999) (hn : 1 ≤ n ∧ n ≤ 6) (hv : ∀ i, 0 ≤ i → i < 96 → 0 ≤ di i ∧ di i ≤ 5) (hpe : rH g 2 0 24 pe) (hdi : rH g 3 0 96 di) (hQ : ∀ g2 : sp_G, sp_fr [2, 3] g g2 → rH g2 2 0 24 (dr_p sd) → rH g2 3 0 96 (ly l (dr_d sd n) di 24) → Q (some (v_i (sI (dr_p sd) 24))) g2) : sp_Met (d + 1) mX4_drawLayer [v_r 1, v_i l, v_i sd, v_i n] g Q := by
  refine sp_of (L := [_, _, _, _, _, _, _, _]) (by decide) (Nat.le_of_ble_eq_true rfl) rfl rfl ?_
  refine aw_iload_n dX4_drawLayer_0 rfl ?_
  refine aw_i2l dX4_drawLayer_1 (by omega) ?_
  refine aw_lstore (L2 := [_, _, _, _, _, _, _, _]) dX4_drawLayer_2 (by decide) rfl rfl ?_
  refine aw_iconst dX4_drawLayer_4 ?_
  refine aw_istore (L2 := [_, _, _, _, _, _, _, _]) dX4_drawLayer_5 (by decide) rfl rfl ?_
  refine aw_iconst dX4_drawLayer_7 ?_
  refine aw_istore (L2 := [_, _, _, _, _, _, _, _]) dX4_drawLayer_8 (by decide) rfl rfl ?_
  refine lX4_draw d hl (by omega) hn hv hQ 24 0 _ _ g (by omega) (by omega) rfl rfl sp_fr.rf (hpe.c (fun i h1 h2 => (if_neg (by omega)).symm)) ?_
  rw [ly_0]
  exact hdi
theorem tX4_followed (d : Nat) {t : Nat} {di : Int → Int} {l way k a : Int} {g : sp_G} {Q : sp_P} (hT : sp_isT t) (hl : 0 ≤ l ∧ l ≤ 3) (hw : 0 ≤ way ∧ way ≤ 3) (hk : 0 ≤ k ∧ k ≤ 3) (ha : 0 ≤ a ∧ a ≤ 23) (hv : ∀ i, 0 ≤ i → i < 96 → 0 ≤ di i ∧ di i ≤ 5) (hdi : rH g (t + 2) 0 96 di) (hQ : Q (some (v_i (fw di l way k a))) g) : sp_Met (d + 1) mX4_followed [v_r t, v_i l, v_i way, v_i k, v_i a] g Q := by
  refine sp_of (L := [_, _, _, _, _, _]) (by decide) (Nat.le_of_ble_eq_true rfl) rfl rfl ?_
  have hdo : ∀ (x y : Int) (R : sp_P), 0 ≤ x * 24 + y ∧ x * 24 + y < 96 → R (some (v_i (di (x * 24 + y)))) g → sp_Met d mX4_districtOf [v_r t, v_i x, v_i y] g R := fun x y R h hR => tX4_districtOf d hT h (by rw [hdi (x * 24 + y) _ h.1 h.2 (by omega)]; exact hR)
  unfold fw at hQ
  have hv1 := hv (l * 24 + a) (by omega) (by omega)
  have hv2 := hv (k * 24 + a) (by omega) (by omega)
  refine aw_iload dX4_followed_0 rfl ?_
  refine aw_iconst dX4_followed_2 ?_
  refine aw_irem dX4_followed_3 (by omega) ?_
  refine aw_istore (L2 := [_, _, _, _, _, _]) dX4_followed_4 (by decide) rfl rfl ?_
  refine aw_iload_n dX4_followed_6 rfl ?_
  rcases (show way = 0 ∨ way = 1 ∨ way = 2 ∨ way = 3 by omega) with h | h | h | h
  · subst h
    refine aw_tin (tg := 32) dX4_followed_7 (by omega) (by omega) rfl (by decide) ?_
    refine aw_aload_n dX4_followed_32 rfl ?_
    refine aw_iload_n dX4_followed_33 rfl ?_
    refine aw_iload dX4_followed_34 rfl ?_
    refine aw_V2 dX4_followed_36 okX4_districtOf lkX4_31 hT.1 rfl rfl ?_
    refine hdo _ _ _ (by omega) ?_
    refine aw_iret dX4_followed_39 rfl ?_
    exact hQ
  · subst h
    refine aw_tin (tg := 40) dX4_followed_7 (by omega) (by omega) rfl (by decide) ?_
    refine aw_aload_n dX4_followed_40 rfl ?_
    refine aw_iload_n dX4_followed_41 rfl ?_
    refine aw_iload dX4_followed_42 rfl ?_
    refine aw_iload dX4_followed_44 rfl ?_
    refine aw_isub dX4_followed_46 ?_
    refine aw_iconst dX4_followed_47 ?_
    refine aw_iadd dX4_followed_48 ?_
    refine aw_iconst dX4_followed_49 ?_
    refine aw_isub dX4_followed_50 ?_
    refine aw_iload dX4_followed_51 rfl ?_
    refine aw_isub dX4_followed_53 ?_
    refine aw_V2 dX4_followed_54 okX4_districtOf lkX4_31 hT.1 rfl rfl ?_
    refine hdo _ _ _ (by omega) ?_
    refine aw_iret dX4_followed_57 rfl ?_
    rw [show a - a % 4 + 4 - 1 - a % 4 = a / 4 * 4 + 3 - a % 4 by omega]
    exact hQ
  · subst h
    refine aw_tin (tg := 58) dX4_followed_7 (by omega) (by omega) rfl (by decide) ?_
    refine aw_aload_n dX4_followed_58 rfl ?_
    refine aw_iload_n dX4_followed_59 rfl ?_
    refine aw_bipush dX4_followed_60 (by decide) ?_
    refine aw_iload dX4_followed_62 rfl ?_
    refine aw_iload dX4_followed_64 rfl ?_
    refine aw_isub dX4_followed_66 ?_
    refine aw_isub dX4_followed_67 ?_
    refine aw_iload dX4_followed_68 rfl ?_
    refine aw_iadd dX4_followed_70 ?_
    refine aw_V2 dX4_followed_71 okX4_districtOf lkX4_31 hT.1 rfl rfl ?_
    refine hdo _ _ _ (by omega) ?_
    refine aw_iret dX4_followed_74 rfl ?_
    rw [show 20 - (a - a % 4) + a % 4 = 20 - a / 4 * 4 + a % 4 by omega]
    exact hQ
  · subst h
    refine aw_tout (tg := 75) dX4_followed_7 (by omega) (by omega) (by decide) ?_
    refine aw_aload_n dX4_followed_75 rfl ?_
    refine aw_iload_n dX4_followed_76 rfl ?_
    refine aw_iload dX4_followed_77 rfl ?_
    refine aw_V2 dX4_followed_79 okX4_districtOf lkX4_31 hT.1 rfl rfl ?_
    refine hdo _ _ _ (by omega) ?_
    refine aw_aload_n dX4_followed_82 rfl ?_
    refine aw_iload_n dX4_followed_83 rfl ?_
    refine aw_iload dX4_followed_84 rfl ?_
    refine aw_V2 dX4_followed_86 okX4_districtOf lkX4_31 hT.1 rfl rfl ?_
    refine hdo _ _ _ (by omega) ?_
    refine aw_mmax dX4_followed_89 lkX4_58 (by omega) rfl ?_
    refine aw_iret dX4_followed_92 rfl ?_
    exact hQ
def fw_c (di : Int → Int) (l way k : Int) : Int → Int := fun a => if di (l * 24 + a) = fw di l way k a then 0 else 1
theorem fw_b {di : Int → Int} {l way k a : Int} (hl : 0 ≤ l ∧ l ≤ 3) (hk : 0 ≤ k ∧ k ≤ 3) (ha : 0 ≤ a ∧ a ≤ 23) (hv : ∀ i, 0 ≤ i → i < 96 → 0 ≤ di i ∧ di i ≤ 5) : 0 ≤ fw di l way k a ∧ fw di l way k a ≤ 5 := by
  have h1 := hv (k * 24 + a) (by omega) (by omega)
  have h2 := hv (l * 24 + (a / 4 * 4 + 3 - a % 4)) (by omega) (by omega)
  have h3 := hv (l * 24 + (20 - a / 4 * 4 + a % 4)) (by omega) (by omega)
  have h4 := hv (l * 24 + a) (by omega) (by omega)
  unfold fw
  repeat' split
  all_goals omega
theorem lX4_follow (d : Nat) {t : Nat} {di : Int → Int} {l way k : Int} {g0 : sp_G} {Q : sp_P} (hT : sp_isT t) (ht : t + 2 ≠ 3) (hl : 0 ≤ l ∧ l ≤ 3) (hw : 0 ≤ way ∧ way ≤ 3) (hk : 0 ≤ k ∧ k ≤ 3) (hv : ∀ i, 0 ≤ i → i < 96 → 0 ≤ di i ∧ di i ≤ 5) (hdt : rH g0 (t + 2) 0 96 di)
    (hQ : ∀ g : sp_G, sp_fr [3] g0 g → rH g 3 0 96 (ly l (fw di l way k) di 24) → Q (some (v_i (sI (fw_c di l way k) 24))) g) :
    ∀ (n : Nat) (a many : Int) (g : sp_G), 0 ≤ a → a + n = 24 → many = sI (fw_c di l way k) a → sp_fr [3] g0 g → rH g 3 0 96 (ly l (fw di l way k) di a) → sp_AW mX4_followMap (d + 2) 6 [some (v_r 1), some (v_r t), some (v_i l), some (v_i way), some (v_i k), some (v_i many), some (v_i a)] [] g Q := by
  intro n
  induction n with
  | zero =>
    intro a many g h0 hn em hf hd
    have ea : a = 24 := by omega
    subst ea
    refine aw_iload dX4_followMap_6 rfl ?_
    refine aw_bipush dX4_followMap_8 (by decide) ?_
    refine aw_icmp_ge (tg := 41) dX4_followMap_10 (by decide) (by omega) (fun h10 => ?_) (fun h10 => absurd h10 (by omega))
    refine aw_iload dX4_followMap_41 rfl ?_
    refine aw_iret dX4_followMap_43 rfl ?_
    rw [em]
    exact hQ g hf hd
  | succ n ih =>
    intro a many g h0 hn em hf hd
    have hcur : g 3 (l * 24 + a) = di (l * 24 + a) := by rw [hd (l * 24 + a) _ (by omega) (by omega) (by omega), ly_at (by omega)]
    have hdv := hv (l * 24 + a) (by omega) (by omega)
    have hfb := fw_b (way := way) (a := a) hl hk (by omega) hv
    refine aw_iload dX4_followMap_6 rfl ?_
    refine aw_bipush dX4_followMap_8 (by decide) ?_
    refine aw_icmp_ge (tg := 41) dX4_followMap_10 (by decide) (by omega) (fun h10 => absurd h10 (by omega)) (fun h10 => ?_)
    refine aw_iload dX4_followMap_13 rfl ?_
    refine aw_aload_n dX4_followMap_15 rfl ?_
    refine aw_iload_n dX4_followMap_16 rfl ?_
    refine aw_iload dX4_followMap_17 rfl ?_
    refine aw_aload_n dX4_followMap_19 rfl ?_
    refine aw_iload_n dX4_followMap_20 rfl ?_
    refine aw_iload_n dX4_followMap_21 rfl ?_
    refine aw_iload dX4_followMap_22 rfl ?_
    refine aw_iload dX4_followMap_24 rfl ?_
    refine aw_S5 dX4_followMap_26 okX4_followed lkX4_54 rfl ?_
    refine tX4_followed d hT hl hw hk (by omega) hv (hdt.fr hf (by simpa using ht)) ?_
    refine aw_V3 dX4_followMap_29 okX4_setDistrict lkX4_38 rfl rfl rfl ?_
    refine tX4_setDistrict (d + 1) (by omega) (by rw [hcur]; omega) ?_
    refine aw_iadd dX4_followMap_32 ?_
    refine aw_istore (L2 := [_, _, _, _, _, _, _]) dX4_followMap_33 (by decide) rfl rfl ?_
    refine aw_iinc (L2 := [_, _, _, _, _, _, _]) dX4_followMap_35 rfl (by decide) rfl rfl ?_
    refine aw_goto (tg := 6) dX4_followMap_38 (by decide) ?_
    refine ih (a + 1) _ _ (by omega) (by omega) ?_ (hf.up (by decide)) ?_
    · rw [em, hcur, sI_s _ h0]
      rfl
    · exact (hd.up (i := l * 24 + a) (by omega)).c (fun t _ _ => ly_s h0 t)
theorem tX4_followMap (d : Nat) {t : Nat} {di : Int → Int} {l way k : Int} {g : sp_G} {Q : sp_P} (hT : sp_isT t) (ht : t + 2 ≠ 3) (hl : 0 ≤ l ∧ l ≤ 3) (hw : 0 ≤ way ∧ way ≤ 3) (hk : 0 ≤ k ∧ k ≤ 3) (hv : ∀ i, 0 ≤ i → i < 96 → 0 ≤ di i ∧ di i ≤ 5) (hdt : rH g (t + 2) 0 96 di) (hdi : rH g 3 0 96 di) (hQ : ∀ g2 : sp_G, sp_fr [3] g g2 → rH g2 3 0 96 (ly l (fw di l way k) di 24) → Q (some (v_i (sI (fw_c di l way k) 24))) g2) : sp_Met (d + 2) mX4_followMap [v_r 1, v_r t, v_i l, v_i way, v_i k] g Q := by
  refine sp_of (L := [_, _, _, _, _, _, _]) (by decide) (Nat.le_of_ble_eq_true rfl) rfl rfl ?_
  refine aw_iconst dX4_followMap_0 ?_
  refine aw_istore (L2 := [_, _, _, _, _, _, _]) dX4_followMap_1 (by decide) rfl rfl ?_
  refine aw_iconst dX4_followMap_3 ?_
  refine aw_istore (L2 := [_, _, _, _, _, _, _]) dX4_followMap_4 (by decide) rfl rfl ?_
  refine lX4_follow d hT ht hl hw hk hv hdt hQ 24 0 _ g (by omega) (by omega) rfl sp_fr.rf ?_
  rw [ly_0]
  exact hdi
theorem lX4_leaderIn (d : Nat) {pe di na : Int → Int} {on l a e : Int} {g : sp_G} {Q : sp_P} (hl : 0 ≤ l ∧ l ≤ 3) (ha : 0 ≤ a ∧ a ≤ 23) (hv : tV pe di na on) (hdi : rH g 3 0 96 di) (hna : rH g 4 0 24 na) (he : 0 ≤ e ∧ e ≤ 5)
    (hQ : Q (some (v_i (rk di l e a % na (l * 6 + e)))) g) :
    ∀ (n : Nat) (b z : Int), 0 ≤ b → b + n = a → z = rk di l e b % na (l * 6 + e) → sp_AW mX4_leaderIn (d + 2) 13 [some (v_r 1), some (v_i l), some (v_i a), some (v_i e), some (v_i z), some (v_i b)] [] g Q := by
  have hn1 := hv.2.2.1 (l * 6 + e) (by omega) (by omega)
  intro n
  induction n with
  | zero =>
    intro b z h0 hn ez
    have eb : b = a := by omega
    subst eb
    refine aw_iload dX4_leaderIn_13 rfl ?_
    refine aw_iload_n dX4_leaderIn_15 rfl ?_
    refine aw_icmp_ge (tg := 46) dX4_leaderIn_16 (by decide) (by omega) (fun h16 => ?_) (fun h16 => absurd h16 (by omega))
    refine aw_iload dX4_leaderIn_46 rfl ?_
    refine aw_iret dX4_leaderIn_48 rfl ?_
    rw [ez]
    exact hQ
  | succ n ih =>
    intro b z h0 hn ez
    have hdv := hv.2.1 (l * 24 + b) (by omega) (by omega)
    have hr := rk_b (di := di) (l := l) (e := e) h0
    have hm1 := Int.emod_nonneg (rk di l e b) (show na (l * 6 + e) ≠ 0 by omega)
    have hm2 := Int.emod_lt_of_pos (rk di l e b) (show 0 < na (l * 6 + e) by omega)
    refine aw_iload dX4_leaderIn_13 rfl ?_
    refine aw_iload_n dX4_leaderIn_15 rfl ?_
    refine aw_icmp_ge (tg := 46) dX4_leaderIn_16 (by decide) (by omega) (fun h16 => absurd h16 (by omega)) (fun h16 => ?_)
    refine aw_aload_n dX4_leaderIn_19 rfl ?_
    refine aw_iload_n dX4_leaderIn_20 rfl ?_
    refine aw_iload dX4_leaderIn_21 rfl ?_
    refine aw_V2 dX4_leaderIn_23 okX4_districtOf lkX4_31 rfl rfl rfl ?_
    refine tX4_districtOf_d (d + 1) hdi (by omega) ?_
    refine aw_iload_n dX4_leaderIn_26 rfl ?_
    refine aw_icmp_ne (tg := 40) dX4_leaderIn_27 (by decide) (by omega) (fun h27 => ?_) (fun h27 => ?_)
    · refine aw_iinc (L2 := [_, _, _, _, _, _]) dX4_leaderIn_40 rfl (by decide) rfl rfl ?_
      refine aw_goto (tg := 13) dX4_leaderIn_43 (by decide) ?_
      refine ih (b + 1) _ (by omega) (by omega) ?_
      rw [rk_s h0]
      first
        | (rw [if_neg h27, ez, Int.add_zero])
        | (rw [if_pos h27, ez, p_turn hr.1 (by omega)])
    · refine aw_aload_n dX4_leaderIn_30 rfl ?_
      refine aw_iload_n dX4_leaderIn_31 rfl ?_
      refine aw_iload_n dX4_leaderIn_32 rfl ?_
      refine aw_iload dX4_leaderIn_33 rfl ?_
      refine aw_V3 dX4_leaderIn_35 okX4_nextLeader lkX4_63 rfl rfl rfl ?_
      refine tX4_nextLeader_d d hna (by omega) (by omega) ?_
      refine aw_istore (L2 := [_, _, _, _, _, _]) dX4_leaderIn_38 (by decide) rfl rfl ?_
      refine aw_iinc (L2 := [_, _, _, _, _, _]) dX4_leaderIn_40 rfl (by decide) rfl rfl ?_
      refine aw_goto (tg := 13) dX4_leaderIn_43 (by decide) ?_
      refine ih (b + 1) _ (by omega) (by omega) ?_
      rw [rk_s h0]
      first
        | (rw [if_neg h27, ez, Int.add_zero])
        | (rw [if_pos h27, ez, p_turn hr.1 (by omega)])
theorem tX4_leaderIn (d : Nat) {pe di na : Int → Int} {on l a : Int} {g : sp_G} {Q : sp_P} (hl : 0 ≤ l ∧ l ≤ 3) (ha : 0 ≤ a ∧ a ≤ 23) (hv : tV pe di na on) (hdi : rH g 3 0 96 di) (hna : rH g 4 0 24 na) (hQ : Q (some (v_i (rk di l (di (l * 24 + a)) a % na (l * 6 + di (l * 24 + a))))) g) : sp_Met (d + 2) mX4_leaderIn [v_r 1, v_i l, v_i a] g Q := by
  refine sp_of (L := [_, _, _, _, _, _]) (by decide) (Nat.le_of_ble_eq_true rfl) rfl rfl ?_
  refine aw_aload_n dX4_leaderIn_0 rfl ?_
  refine aw_iload_n dX4_leaderIn_1 rfl ?_
  refine aw_iload_n dX4_leaderIn_2 rfl ?_
  refine aw_V2 dX4_leaderIn_3 okX4_districtOf lkX4_31 rfl rfl rfl ?_
  refine tX4_districtOf_d (d + 1) hdi (by omega) ?_
  refine aw_istore_n (L2 := [_, _, _, _, _, _]) dX4_leaderIn_6 (by decide) rfl rfl ?_
  refine aw_iconst dX4_leaderIn_7 ?_
  refine aw_istore (L2 := [_, _, _, _, _, _]) dX4_leaderIn_8 (by decide) rfl rfl ?_
  refine aw_iconst dX4_leaderIn_10 ?_
  refine aw_istore (L2 := [_, _, _, _, _, _]) dX4_leaderIn_11 (by decide) rfl rfl ?_
  have hdv := hv.2.1 (l * 24 + a) (by omega) (by omega)
  refine lX4_leaderIn d hl ha hv hdi hna hdv hQ a.toNat 0 0 (by omega) (by omega) ?_
  rfl
theorem lX4_ledBy (d : Nat) {pe di na : Int → Int} {on l e n : Int} {v : Prop} [Decidable v] {g : sp_G} {Q : sp_P} (hl : 0 ≤ l ∧ l ≤ 3) (he : 0 ≤ e ∧ e ≤ 5) (hnn : 0 ≤ n ∧ n ≤ 7) (hv : tV pe di na on) (hpe : rH g 2 0 24 pe) (hdi : rH g 3 0 96 di) (hna : rH g 4 0 24 na)
    (hQ : Q (some (v_i (sI (led pe di na l e n v) 24))) g) :
    ∀ (k : Nat) (a many z : Int), 0 ≤ a → a + k = 24 → many = sI (led pe di na l e n v) a → z = rk di l e a % na (l * 6 + e) → sp_AW mX4_ledBy (d + 2) 9 [some (v_r 1), some (v_i l), some (v_i e), some (v_i n), some (v_i (sp_bl v)), some (v_i many), some (v_i z), some (v_i a)] [] g Q := by
  have hn1 := hv.2.2.1 (l * 6 + e) (by omega) (by omega)
  intro k
  induction k with
  | zero =>
    intro a many z h0 hn em ez
    have ea : a = 24 := by omega
    subst ea
    refine aw_iload dX4_ledBy_9 rfl ?_
    refine aw_bipush dX4_ledBy_11 (by decide) ?_
    refine aw_icmp_ge (tg := 70) dX4_ledBy_13 (by decide) (by omega) (fun h13 => ?_) (fun h13 => absurd h13 (by omega))
    refine aw_iload dX4_ledBy_70 rfl ?_
    refine aw_iret dX4_ledBy_72 rfl ?_
    rw [em]
    exact hQ
  | succ k ih =>
    intro a many z h0 hn em ez
    have hdv := hv.2.1 (l * 24 + a) (by omega) (by omega)
    have hr := rk_b (di := di) (l := l) (e := e) h0
    have hm1 := Int.emod_nonneg (rk di l e a) (show na (l * 6 + e) ≠ 0 by omega)
    have hm2 := Int.emod_lt_of_pos (rk di l e a) (show 0 < na (l * 6 + e) by omega)
    have hpa := hpe a a (by omega) (by omega) (by omega)
    refine aw_iload dX4_ledBy_9 rfl ?_
    refine aw_bipush dX4_ledBy_11 (by decide) ?_
    refine aw_icmp_ge (tg := 70) dX4_ledBy_13 (by decide) (by omega) (fun h13 => absurd h13 (by omega)) (fun h13 => ?_)
    refine aw_aload_n dX4_ledBy_16 rfl ?_
    refine aw_iload_n dX4_ledBy_17 rfl ?_
    refine aw_iload dX4_ledBy_18 rfl ?_
    refine aw_V2 dX4_ledBy_20 okX4_districtOf lkX4_31 rfl rfl rfl ?_
    refine tX4_districtOf_d (d + 1) hdi (by omega) ?_
    refine aw_iload_n dX4_ledBy_23 rfl ?_
    refine aw_icmp_ne (tg := 64) dX4_ledBy_24 (by decide) (by omega) (fun h24 => ?_) (fun h24 => ?_)
    · refine aw_iinc (L2 := [_, _, _, _, _, _, _, _]) dX4_ledBy_64 rfl (by decide) rfl rfl ?_
      refine aw_goto (tg := 9) dX4_ledBy_67 (by decide) ?_
      refine ih (a + 1) _ _ (by omega) (by omega) ?_ ?_
      · rw [sI_s _ h0, ← em]
        unfold led
        first
          | (rw [if_neg (fun q => h24 q.1)]; omega)
          | (rw [if_neg (fun q => h30 (ez.trans q.2))]; omega)
          | (rw [if_pos ⟨h24, ez ▸ h30⟩, if_pos h37])
          | (rw [if_pos ⟨h24, ez ▸ h30⟩, if_neg h37])
      · rw [rk_s h0]
        first
          | (rw [if_neg h24, ez, Int.add_zero])
          | (rw [if_pos h24, ez, p_turn hr.1 (by omega)])
    · refine aw_iload dX4_ledBy_27 rfl ?_
      refine aw_iload_n dX4_ledBy_29 rfl ?_
      refine aw_icmp_ne (tg := 54) dX4_ledBy_30 (by decide) (by omega) (fun h30 => ?_) (fun h30 => ?_)
      · refine aw_aload_n dX4_ledBy_54 rfl ?_
        refine aw_iload_n dX4_ledBy_55 rfl ?_
        refine aw_iload_n dX4_ledBy_56 rfl ?_
        refine aw_iload dX4_ledBy_57 rfl ?_
        refine aw_V3 dX4_ledBy_59 okX4_nextLeader lkX4_63 rfl rfl rfl ?_
        refine tX4_nextLeader_d d hna (by omega) (by omega) ?_
        refine aw_istore (L2 := [_, _, _, _, _, _, _, _]) dX4_ledBy_62 (by decide) rfl rfl ?_
        refine aw_iinc (L2 := [_, _, _, _, _, _, _, _]) dX4_ledBy_64 rfl (by decide) rfl rfl ?_
        refine aw_goto (tg := 9) dX4_ledBy_67 (by decide) ?_
        refine ih (a + 1) _ _ (by omega) (by omega) ?_ ?_
        · rw [sI_s _ h0, ← em]
          unfold led
          first
            | (rw [if_neg (fun q => h24 q.1)]; omega)
            | (rw [if_neg (fun q => h30 (ez.trans q.2))]; omega)
            | (rw [if_pos ⟨h24, ez ▸ h30⟩, if_pos h37])
            | (rw [if_pos ⟨h24, ez ▸ h30⟩, if_neg h37])
        · rw [rk_s h0]
          first
            | (rw [if_neg h24, ez, Int.add_zero])
            | (rw [if_pos h24, ez, p_turn hr.1 (by omega)])
      · refine aw_iload dX4_ledBy_33 rfl ?_
        refine aw_iload dX4_ledBy_35 rfl ?_
        refine aw_ifeq_b (tg := 50) dX4_ledBy_37 (by decide) (fun h37 => ?_) (fun h37 => ?_)
        · refine aw_iconst dX4_ledBy_50 ?_
          try rw [hpa]
          refine aw_iadd dX4_ledBy_51 ?_
          refine aw_istore (L2 := [_, _, _, _, _, _, _, _]) dX4_ledBy_52 (by decide) rfl rfl ?_
          refine aw_aload_n dX4_ledBy_54 rfl ?_
          refine aw_iload_n dX4_ledBy_55 rfl ?_
          refine aw_iload_n dX4_ledBy_56 rfl ?_
          refine aw_iload dX4_ledBy_57 rfl ?_
          refine aw_V3 dX4_ledBy_59 okX4_nextLeader lkX4_63 rfl rfl rfl ?_
          refine tX4_nextLeader_d d hna (by omega) (by omega) ?_
          refine aw_istore (L2 := [_, _, _, _, _, _, _, _]) dX4_ledBy_62 (by decide) rfl rfl ?_
          refine aw_iinc (L2 := [_, _, _, _, _, _, _, _]) dX4_ledBy_64 rfl (by decide) rfl rfl ?_
          refine aw_goto (tg := 9) dX4_ledBy_67 (by decide) ?_
          refine ih (a + 1) _ _ (by omega) (by omega) ?_ ?_
          · rw [sI_s _ h0, ← em]
            unfold led
            first
              | (rw [if_neg (fun q => h24 q.1)]; omega)
              | (rw [if_neg (fun q => h30 (ez.trans q.2))]; omega)
              | (rw [if_pos ⟨h24, ez ▸ h30⟩, if_pos h37])
              | (rw [if_pos ⟨h24, ez ▸ h30⟩, if_neg h37])
          · rw [rk_s h0]
            first
              | (rw [if_neg h24, ez, Int.add_zero])
              | (rw [if_pos h24, ez, p_turn hr.1 (by omega)])
        · refine aw_aload_n dX4_ledBy_40 rfl ?_
          refine aw_getR dX4_ledBy_41 flX4_9 rfl rfl ?_
          refine aw_iload dX4_ledBy_44 rfl ?_
          refine aw_iald dX4_ledBy_46 rfl (by omega) ?_
          refine aw_goto (tg := 51) dX4_ledBy_47 (by decide) ?_
          try rw [hpa]
          refine aw_iadd dX4_ledBy_51 ?_
          refine aw_istore (L2 := [_, _, _, _, _, _, _, _]) dX4_ledBy_52 (by decide) rfl rfl ?_
          refine aw_aload_n dX4_ledBy_54 rfl ?_
          refine aw_iload_n dX4_ledBy_55 rfl ?_
          refine aw_iload_n dX4_ledBy_56 rfl ?_
          refine aw_iload dX4_ledBy_57 rfl ?_
          refine aw_V3 dX4_ledBy_59 okX4_nextLeader lkX4_63 rfl rfl rfl ?_
          refine tX4_nextLeader_d d hna (by omega) (by omega) ?_
          refine aw_istore (L2 := [_, _, _, _, _, _, _, _]) dX4_ledBy_62 (by decide) rfl rfl ?_
          refine aw_iinc (L2 := [_, _, _, _, _, _, _, _]) dX4_ledBy_64 rfl (by decide) rfl rfl ?_
          refine aw_goto (tg := 9) dX4_ledBy_67 (by decide) ?_
          refine ih (a + 1) _ _ (by omega) (by omega) ?_ ?_
          · rw [sI_s _ h0, ← em]
            unfold led
            first
              | (rw [if_neg (fun q => h24 q.1)]; omega)
              | (rw [if_neg (fun q => h30 (ez.trans q.2))]; omega)
              | (rw [if_pos ⟨h24, ez ▸ h30⟩, if_pos h37])
              | (rw [if_pos ⟨h24, ez ▸ h30⟩, if_neg h37])
          · rw [rk_s h0]
            first
              | (rw [if_neg h24, ez, Int.add_zero])
              | (rw [if_pos h24, ez, p_turn hr.1 (by omega)])
theorem tX4_ledBy (d : Nat) {pe di na : Int → Int} {on l e n : Int} {v : Prop} [Decidable v] {g : sp_G} {Q : sp_P} (hl : 0 ≤ l ∧ l ≤ 3) (he : 0 ≤ e ∧ e ≤ 5) (hnn : 0 ≤ n ∧ n ≤ 7) (hv : tV pe di na on) (hpe : rH g 2 0 24 pe) (hdi : rH g 3 0 96 di) (hna : rH g 4 0 24 na) (hQ : Q (some (v_i (sI (led pe di na l e n v) 24))) g) : sp_Met (d + 2) mX4_ledBy [v_r 1, v_i l, v_i e, v_i n, v_i (sp_bl v)] g Q := by
  refine sp_of (L := [_, _, _, _, _, _, _, _]) (by decide) (Nat.le_of_ble_eq_true rfl) rfl rfl ?_
  refine aw_iconst dX4_ledBy_0 ?_
  refine aw_istore (L2 := [_, _, _, _, _, _, _, _]) dX4_ledBy_1 (by decide) rfl rfl ?_
  refine aw_iconst dX4_ledBy_3 ?_
  refine aw_istore (L2 := [_, _, _, _, _, _, _, _]) dX4_ledBy_4 (by decide) rfl rfl ?_
  refine aw_iconst dX4_ledBy_6 ?_
  refine aw_istore (L2 := [_, _, _, _, _, _, _, _]) dX4_ledBy_7 (by decide) rfl rfl ?_
  refine lX4_ledBy d hl he hnn hv hpe hdi hna hQ 24 0 0 0 (by omega) (by omega) rfl ?_
  rfl
/-- town t becomes as town q -/
def sp_sn (g : sp_G) (t q : Nat) : sp_G := fun p j => if p = t then (if j = 3 then g q 3 else g t j) else if p = t + 1 then (if 0 ≤ j ∧ j < 24 then g (q + 1) j else g p j) else if p = t + 2 then (if 0 ≤ j ∧ j < 96 then g (q + 2) j else g p j) else if p = t + 3 then (if 0 ≤ j ∧ j < 24 then g (q + 3) j else g p j) else g p j
theorem tX4_copyFrom (d : Nat) {t q : Nat} {g : sp_G} {Q : sp_P} (hT : sp_isT t) (hq : sp_isT q) (htq : t + 3 < q ∨ q + 3 < t) (hQ : Q none (sp_sn g t q)) : sp_Met (d + 1) mX4_copyFrom [v_r t, v_r q] g Q := by
  refine sp_of (L := [_, _]) (by decide) (Nat.le_of_ble_eq_true rfl) rfl rfl ?_
  refine aw_aload_n dX4_copyFrom_0 rfl ?_
  refine aw_getR dX4_copyFrom_1 flX4_9 hq.1 rfl ?_
  refine aw_iconst dX4_copyFrom_4 ?_
  refine aw_aload_n dX4_copyFrom_5 rfl ?_
  refine aw_getR dX4_copyFrom_6 flX4_9 hT.1 rfl ?_
  refine aw_iconst dX4_copyFrom_9 ?_
  refine aw_bipush dX4_copyFrom_10 (by decide) ?_
  refine aw_copy dX4_copyFrom_12 lkX4_25 hq.2.1 hT.2.1 (by omega) rfl ?_
  refine aw_aload_n dX4_copyFrom_15 rfl ?_
  refine aw_getR dX4_copyFrom_16 flX4_15 hq.1 rfl ?_
  refine aw_iconst dX4_copyFrom_19 ?_
  refine aw_aload_n dX4_copyFrom_20 rfl ?_
  refine aw_getR dX4_copyFrom_21 flX4_15 hT.1 rfl ?_
  refine aw_iconst dX4_copyFrom_24 ?_
  refine aw_bipush dX4_copyFrom_25 (by decide) ?_
  refine aw_copy dX4_copyFrom_27 lkX4_25 hq.2.2.1 hT.2.2.1 (by omega) rfl ?_
  refine aw_aload_n dX4_copyFrom_30 rfl ?_
  refine aw_getR dX4_copyFrom_31 flX4_18 hq.1 rfl ?_
  refine aw_iconst dX4_copyFrom_34 ?_
  refine aw_aload_n dX4_copyFrom_35 rfl ?_
  refine aw_getR dX4_copyFrom_36 flX4_18 hT.1 rfl ?_
  refine aw_iconst dX4_copyFrom_39 ?_
  refine aw_bipush dX4_copyFrom_40 (by decide) ?_
  refine aw_copy dX4_copyFrom_42 lkX4_25 hq.2.2.2 hT.2.2.2 (by omega) rfl ?_
  refine aw_aload_n dX4_copyFrom_45 rfl ?_
  refine aw_aload_n dX4_copyFrom_46 rfl ?_
  refine aw_getI (kz := 3) dX4_copyFrom_47 flX4_21 hq.1 rfl rfl ?_
  refine aw_putI (kz := 3) dX4_copyFrom_50 flX4_21 fi_4_3 hT.1 rfl rfl  ?_
  refine aw_vret dX4_copyFrom_53 rfl ?_
  have e : sp_up (sp_cp (sp_cp (sp_cp g (q + 1) (t + 1) 24) (q + 2) (t + 2) 96) (q + 3) (t + 3) 24) t 3 (sp_cp (sp_cp (sp_cp g (q + 1) (t + 1) 24) (q + 2) (t + 2) 96) (q + 3) (t + 3) 24 q 3) = sp_sn g t q := by
    funext p j
    simp only [sp_up, sp_cp, sp_sn]
    by_cases h0 : p = t
    · subst h0
      have e1 : q ≠ p + 1 := by omega
      have e2 : q ≠ p + 2 := by omega
      have e3 : q ≠ p + 3 := by omega
      simp [e1, e2, e3]
    · by_cases h1 : p = t + 1
      · subst h1
        simp
      · by_cases h2 : p = t + 2
        · subst h2
          have e1 : q + 2 ≠ t + 1 := by omega
          simp [e1]
        · by_cases h3 : p = t + 3
          · subst h3
            have e1 : q + 3 ≠ t + 1 := by omega
            have e2 : q + 3 ≠ t + 2 := by omega
            simp [e1, e2]
          · simp [h0, h1, h2, h3]
  rw [e]
  exact hQ
theorem tX1_keep (d : Nat) {g : sp_G} {Q : sp_P} (hn : 0 ≤ g 5 1 ∧ g 5 1 < 8) (hc : 0 ≤ g 5 2 ∧ g 5 2 ≤ 8) (hQ : Q (some (v_r (7 + 4 * (g 5 1).toNat))) (sp_up (sp_up (sp_sn g (7 + 4 * (g 5 1).toNat) 1) 5 1 ((g 5 1 + 1) % 8)) 5 2 (if g 5 2 < 8 then g 5 2 + 1 else 8))) : sp_Met (d + 2) mX1_keep [v_r 5, v_r 1] g Q := by
  refine sp_of (L := [_, _, _]) (by decide) (Nat.le_of_ble_eq_true rfl) rfl rfl ?_
  have hT := sp_isT_r (n := (g 5 1).toNat) (by omega)
  have hs : ∀ j, sp_sn g (7 + 4 * (g 5 1).toNat) 1 5 j = g 5 j := by
    intro j
    simp only [sp_sn]
    rw [if_neg (by omega), if_neg (by omega), if_neg (by omega), if_neg (by omega)]
  refine aw_aload_n dX1_keep_0 rfl ?_
  refine aw_getR dX1_keep_1 flX1_11 rfl rfl ?_
  refine aw_aload_n dX1_keep_4 rfl ?_
  refine aw_getI (kz := 1) dX1_keep_5 flX1_15 rfl rfl rfl ?_
  refine aw_aald dX1_keep_8 rfl (by omega) ?_
  refine aw_astore_n (L2 := [_, _, _]) dX1_keep_9 (by decide) rfl rfl ?_
  refine aw_aload_n dX1_keep_10 rfl ?_
  refine aw_aload_n dX1_keep_11 rfl ?_
  refine aw_V1 dX1_keep_12 okX4_copyFrom lkX1_23 hT.1 rfl rfl ?_
  refine tX4_copyFrom d hT sp_isT_1 (by omega) ?_
  refine aw_aload_n dX1_keep_15 rfl ?_
  refine aw_aload_n dX1_keep_16 rfl ?_
  refine aw_getI (kz := 1) dX1_keep_17 flX1_15 rfl rfl rfl ?_
  rw [hs]
  refine aw_iconst dX1_keep_20 ?_
  refine aw_iadd dX1_keep_21 ?_
  refine aw_bipush dX1_keep_22 (by decide) ?_
  refine aw_irem dX1_keep_24 (by omega) ?_
  refine aw_putI (kz := 1) dX1_keep_25 flX1_15 fi_1_1 rfl rfl rfl  ?_
  refine aw_aload_n dX1_keep_28 rfl ?_
  refine aw_aload_n dX1_keep_29 rfl ?_
  refine aw_getI (kz := 2) dX1_keep_30 flX1_19 rfl rfl rfl ?_
  rw [sp_up_i _ _ _ _ (by decide), hs]
  refine aw_iconst dX1_keep_33 ?_
  refine aw_iadd dX1_keep_34 ?_
  refine aw_bipush dX1_keep_35 (by decide) ?_
  refine aw_mmin dX1_keep_37 lkX1_27 (by omega) rfl ?_
  refine aw_putI (kz := 2) dX1_keep_40 flX1_19 fi_1_2 rfl rfl rfl  ?_
  refine aw_aload_n dX1_keep_43 rfl ?_
  refine aw_aret dX1_keep_44 rfl ?_
  have e : (if 8 < g 5 2 + 1 then (8 : Int) else g 5 2 + 1) = (if g 5 2 < 8 then g 5 2 + 1 else 8) := by
    by_cases h : g 5 2 < 8
    · rw [if_pos h, if_neg (by omega)]
    · rw [if_neg h, if_pos (by omega)]
  rw [e]
  exact hQ
theorem tX1_takeBack (d : Nat) {g : sp_G} {Q : sp_P} (hn : 0 ≤ g 5 1 ∧ g 5 1 < 8) (hc : 0 < g 5 2 ∧ g 5 2 ≤ 8) (hQ : Q (some (v_i (g 5 2 - 1))) (sp_sn (sp_up (sp_up g 5 1 ((g 5 1 + 7) % 8)) 5 2 (g 5 2 - 1)) 1 (7 + 4 * ((g 5 1 + 7) % 8).toNat))) : sp_Met (d + 2) mX1_takeBack [v_r 5, v_r 1] g Q := by
  refine sp_of (L := [_, _]) (by decide) (Nat.le_of_ble_eq_true rfl) rfl rfl ?_
  have hT := sp_isT_r (n := ((g 5 1 + 7) % 8).toNat) (by omega)
  have hs : ∀ (u : sp_G) (q : Nat) j, sp_sn u 1 q 5 j = u 5 j := by
    intro u q j
    simp only [sp_sn]
    rw [if_neg (by omega), if_neg (by omega), if_neg (by omega), if_neg (by omega)]
  have e8 : (g 5 1 + 8 - 1) % 8 = (g 5 1 + 7) % 8 := by omega
  refine aw_aload_n dX1_takeBack_0 rfl ?_
  refine aw_getI (kz := 2) dX1_takeBack_1 flX1_19 rfl rfl rfl ?_
  refine aw_if_le (tg := 46) dX1_takeBack_4 (by decide) (by omega) (fun h4 => absurd h4 (by omega)) (fun h4 => ?_)
  refine aw_aload_n dX1_takeBack_7 rfl ?_
  refine aw_aload_n dX1_takeBack_8 rfl ?_
  refine aw_getI (kz := 1) dX1_takeBack_9 flX1_15 rfl rfl rfl ?_
  refine aw_bipush dX1_takeBack_12 (by decide) ?_
  refine aw_iadd dX1_takeBack_14 ?_
  refine aw_iconst dX1_takeBack_15 ?_
  refine aw_isub dX1_takeBack_16 ?_
  refine aw_bipush dX1_takeBack_17 (by decide) ?_
  refine aw_irem dX1_takeBack_19 (by omega) ?_
  rw [e8]
  refine aw_putI (kz := 1) dX1_takeBack_20 flX1_15 fi_1_1 rfl rfl rfl  ?_
  refine aw_aload_n dX1_takeBack_23 rfl ?_
  refine aw_dup dX1_takeBack_24 rfl ?_
  refine aw_getI (kz := 2) dX1_takeBack_25 flX1_19 rfl rfl rfl ?_
  rw [sp_up_i _ _ _ _ (by decide)]
  refine aw_iconst dX1_takeBack_28 ?_
  refine aw_isub dX1_takeBack_29 ?_
  refine aw_putI (kz := 2) dX1_takeBack_30 flX1_19 fi_1_2 rfl rfl rfl  ?_
  refine aw_aload_n dX1_takeBack_33 rfl ?_
  refine aw_aload_n dX1_takeBack_34 rfl ?_
  refine aw_getR dX1_takeBack_35 flX1_11 rfl rfl ?_
  refine aw_aload_n dX1_takeBack_38 rfl ?_
  refine aw_getI (kz := 1) dX1_takeBack_39 flX1_15 rfl rfl rfl ?_
  rw [sp_up_i _ _ _ _ (by decide), sp_up_s]
  refine aw_aald dX1_takeBack_42 rfl (by omega) ?_
  refine aw_V1 dX1_takeBack_43 okX4_copyFrom lkX1_23 rfl rfl rfl ?_
  refine tX4_copyFrom d sp_isT_1 hT (by omega) ?_
  refine aw_aload_n dX1_takeBack_46 rfl ?_
  refine aw_getI (kz := 2) dX1_takeBack_47 flX1_19 rfl rfl rfl ?_
  refine aw_iret dX1_takeBack_50 rfl ?_
  rw [hs, sp_up_s]
  exact hQ
end
section
theorem i_vc : Claimed_1_1 ∧ Claimed_1_2 := sorry
end
