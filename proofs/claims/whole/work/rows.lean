section
-- ===== PART A: goes FIRST, ahead of the names: the tables' words, and 'selects' of the private methods out of them =====
/-- a private method of a class that the tables say can be made, by its rows of tables_1 -/
def lw_okq (q : MethodName × Nat) : Prop := (q.1.cls ≠ "java/lang/invoke/MethodHandle" ∧ q.1.cls ≠ "java/lang/invoke/VarHandle") ∧ Cond.instantiable q.1.cls q.2 ∈ tables_1 ∧ Cond.privateMethod q.1 ∈ tables_1 ∧ Cond.instanceMethod q.1 ∈ tables_1
theorem lw_p0 : lw_okq (⟨"FontOutlines$Font", "isFile", "()Z"⟩, 15) := ⟨⟨by decide +kernel, by decide +kernel⟩, List.mem_of_getElem? (i := 49) (by decide +kernel), List.mem_of_getElem? (i := 336) (by decide +kernel), List.mem_of_getElem? (i := 337) (by decide +kernel)⟩
theorem lw_p1 : lw_okq (⟨"FontOutlines$Font", "tables", "()I"⟩, 15) := ⟨⟨by decide +kernel, by decide +kernel⟩, List.mem_of_getElem? (i := 49) (by decide +kernel), List.mem_of_getElem? (i := 340) (by decide +kernel), List.mem_of_getElem? (i := 341) (by decide +kernel)⟩
theorem lw_p2 : lw_okq (⟨"FontOutlines$Font", "hasSums", "()Z"⟩, 15) := ⟨⟨by decide +kernel, by decide +kernel⟩, List.mem_of_getElem? (i := 49) (by decide +kernel), List.mem_of_getElem? (i := 363) (by decide +kernel), List.mem_of_getElem? (i := 364) (by decide +kernel)⟩
theorem lw_p3 : lw_okq (⟨"FontOutlines$Font", "layByEntry", "(LFontOutlines$Table;I)V"⟩, 15) := ⟨⟨by decide +kernel, by decide +kernel⟩, List.mem_of_getElem? (i := 49) (by decide +kernel), List.mem_of_getElem? (i := 367) (by decide +kernel), List.mem_of_getElem? (i := 368) (by decide +kernel)⟩
theorem lw_p4 : lw_okq (⟨"FontOutlines$Font", "sum", "(LFontOutlines$Table;)J"⟩, 15) := ⟨⟨by decide +kernel, by decide +kernel⟩, List.mem_of_getElem? (i := 49) (by decide +kernel), List.mem_of_getElem? (i := 371) (by decide +kernel), List.mem_of_getElem? (i := 372) (by decide +kernel)⟩
theorem lw_p5 : lw_okq (⟨"FontOutlines$Font", "hasTables", "()Z"⟩, 15) := ⟨⟨by decide +kernel, by decide +kernel⟩, List.mem_of_getElem? (i := 49) (by decide +kernel), List.mem_of_getElem? (i := 376) (by decide +kernel), List.mem_of_getElem? (i := 377) (by decide +kernel)⟩
theorem lw_p6 : lw_okq (⟨"FontOutlines$Font", "finds", "(LFontOutlines$Table;I)Z"⟩, 15) := ⟨⟨by decide +kernel, by decide +kernel⟩, List.mem_of_getElem? (i := 49) (by decide +kernel), List.mem_of_getElem? (i := 381) (by decide +kernel), List.mem_of_getElem? (i := 382) (by decide +kernel)⟩
theorem lw_p7 : lw_okq (⟨"FontOutlines$Font", "hasCounts", "()Z"⟩, 15) := ⟨⟨by decide +kernel, by decide +kernel⟩, List.mem_of_getElem? (i := 49) (by decide +kernel), List.mem_of_getElem? (i := 391) (by decide +kernel), List.mem_of_getElem? (i := 392) (by decide +kernel)⟩
theorem lw_p8 : lw_okq (⟨"FontOutlines$Font", "hasPlaces", "()Z"⟩, 15) := ⟨⟨by decide +kernel, by decide +kernel⟩, List.mem_of_getElem? (i := 49) (by decide +kernel), List.mem_of_getElem? (i := 395) (by decide +kernel), List.mem_of_getElem? (i := 396) (by decide +kernel)⟩
theorem lw_p9 : lw_okq (⟨"FontOutlines$CharacterMap", "firstEntry", "(II)I"⟩, 4) := ⟨⟨by decide +kernel, by decide +kernel⟩, List.mem_of_getElem? (i := 77) (by decide +kernel), List.mem_of_getElem? (i := 410) (by decide +kernel), List.mem_of_getElem? (i := 411) (by decide +kernel)⟩
theorem lw_p10 : lw_okq (⟨"FontOutlines$CharacterMap", "hasGroups", "()Z"⟩, 4) := ⟨⟨by decide +kernel, by decide +kernel⟩, List.mem_of_getElem? (i := 77) (by decide +kernel), List.mem_of_getElem? (i := 415) (by decide +kernel), List.mem_of_getElem? (i := 416) (by decide +kernel)⟩
theorem lw_p11 : lw_okq (⟨"FontOutlines$CharacterMap", "hasSegments", "()Z"⟩, 4) := ⟨⟨by decide +kernel, by decide +kernel⟩, List.mem_of_getElem? (i := 77) (by decide +kernel), List.mem_of_getElem? (i := 423) (by decide +kernel), List.mem_of_getElem? (i := 424) (by decide +kernel)⟩
theorem lw_p12 : lw_okq (⟨"FontOutlines$CharacterMap", "lastOf", "(I)I"⟩, 4) := ⟨⟨by decide +kernel, by decide +kernel⟩, List.mem_of_getElem? (i := 77) (by decide +kernel), List.mem_of_getElem? (i := 427) (by decide +kernel), List.mem_of_getElem? (i := 428) (by decide +kernel)⟩
theorem lw_p13 : lw_okq (⟨"FontOutlines$CharacterMap", "firstOf", "(I)I"⟩, 4) := ⟨⟨by decide +kernel, by decide +kernel⟩, List.mem_of_getElem? (i := 77) (by decide +kernel), List.mem_of_getElem? (i := 431) (by decide +kernel), List.mem_of_getElem? (i := 432) (by decide +kernel)⟩
theorem lw_p14 : lw_okq (⟨"FontOutlines$Outline", "addsGlyph", "(LFontOutlines$Font;II)Z"⟩, 10) := ⟨⟨by decide +kernel, by decide +kernel⟩, List.mem_of_getElem? (i := 148) (by decide +kernel), List.mem_of_getElem? (i := 444) (by decide +kernel), List.mem_of_getElem? (i := 445) (by decide +kernel)⟩
theorem lw_p15 : lw_okq (⟨"FontOutlines$Outline", "addsParts", "(LFontOutlines$Font;II)Z"⟩, 10) := ⟨⟨by decide +kernel, by decide +kernel⟩, List.mem_of_getElem? (i := 148) (by decide +kernel), List.mem_of_getElem? (i := 466) (by decide +kernel), List.mem_of_getElem? (i := 467) (by decide +kernel)⟩
def lw_privs_1 : List (MethodName × Nat) := [(⟨"FontOutlines$Font", "isFile", "()Z"⟩, 15), (⟨"FontOutlines$Font", "tables", "()I"⟩, 15), (⟨"FontOutlines$Font", "hasSums", "()Z"⟩, 15), (⟨"FontOutlines$Font", "layByEntry", "(LFontOutlines$Table;I)V"⟩, 15), (⟨"FontOutlines$Font", "sum", "(LFontOutlines$Table;)J"⟩, 15), (⟨"FontOutlines$Font", "hasTables", "()Z"⟩, 15), (⟨"FontOutlines$Font", "finds", "(LFontOutlines$Table;I)Z"⟩, 15), (⟨"FontOutlines$Font", "hasCounts", "()Z"⟩, 15), (⟨"FontOutlines$Font", "hasPlaces", "()Z"⟩, 15), (⟨"FontOutlines$CharacterMap", "firstEntry", "(II)I"⟩, 4), (⟨"FontOutlines$CharacterMap", "hasGroups", "()Z"⟩, 4), (⟨"FontOutlines$CharacterMap", "hasSegments", "()Z"⟩, 4), (⟨"FontOutlines$CharacterMap", "lastOf", "(I)I"⟩, 4), (⟨"FontOutlines$CharacterMap", "firstOf", "(I)I"⟩, 4), (⟨"FontOutlines$Outline", "addsGlyph", "(LFontOutlines$Font;II)Z"⟩, 10), (⟨"FontOutlines$Outline", "addsParts", "(LFontOutlines$Font;II)Z"⟩, 10)]
theorem lw_r1 : ∀ q ∈ lw_privs_1, lw_okq q := List.forall_mem_cons.mpr ⟨lw_p0, List.forall_mem_cons.mpr ⟨lw_p1, List.forall_mem_cons.mpr ⟨lw_p2, List.forall_mem_cons.mpr ⟨lw_p3, List.forall_mem_cons.mpr ⟨lw_p4, List.forall_mem_cons.mpr ⟨lw_p5, List.forall_mem_cons.mpr ⟨lw_p6, List.forall_mem_cons.mpr ⟨lw_p7, List.forall_mem_cons.mpr ⟨lw_p8, List.forall_mem_cons.mpr ⟨lw_p9, List.forall_mem_cons.mpr ⟨lw_p10, List.forall_mem_cons.mpr ⟨lw_p11, List.forall_mem_cons.mpr ⟨lw_p12, List.forall_mem_cons.mpr ⟨lw_p13, List.forall_mem_cons.mpr ⟨lw_p14, List.forall_mem_cons.mpr ⟨lw_p15, fun _ h => absurd h List.not_mem_nil⟩⟩⟩⟩⟩⟩⟩⟩⟩⟩⟩⟩⟩⟩⟩⟩
theorem lw_p16 : lw_okq (⟨"FontOutlines$Part", "number", "()I"⟩, 9) := ⟨⟨by decide +kernel, by decide +kernel⟩, List.mem_of_getElem? (i := 177) (by decide +kernel), List.mem_of_getElem? (i := 475) (by decide +kernel), List.mem_of_getElem? (i := 476) (by decide +kernel)⟩
theorem lw_p17 : lw_okq (⟨"FontOutlines$Part", "readFactors", "()V"⟩, 9) := ⟨⟨by decide +kernel, by decide +kernel⟩, List.mem_of_getElem? (i := 177) (by decide +kernel), List.mem_of_getElem? (i := 487) (by decide +kernel), List.mem_of_getElem? (i := 488) (by decide +kernel)⟩
theorem lw_p18 : lw_okq (⟨"FontOutlines$Outline", "isLaid", "(LFontOutlines$Part;II)Z"⟩, 10) := ⟨⟨by decide +kernel, by decide +kernel⟩, List.mem_of_getElem? (i := 148) (by decide +kernel), List.mem_of_getElem? (i := 497) (by decide +kernel), List.mem_of_getElem? (i := 498) (by decide +kernel)⟩
theorem lw_p19 : lw_okq (⟨"FontOutlines$Outline", "isCoordinate", "(I)Z"⟩, 10) := ⟨⟨by decide +kernel, by decide +kernel⟩, List.mem_of_getElem? (i := 148) (by decide +kernel), List.mem_of_getElem? (i := 510) (by decide +kernel), List.mem_of_getElem? (i := 511) (by decide +kernel)⟩
theorem lw_p20 : lw_okq (⟨"FontOutlines$Outline", "addsSimple", "(I)Z"⟩, 10) := ⟨⟨by decide +kernel, by decide +kernel⟩, List.mem_of_getElem? (i := 148) (by decide +kernel), List.mem_of_getElem? (i := 514) (by decide +kernel), List.mem_of_getElem? (i := 515) (by decide +kernel)⟩
theorem lw_p21 : lw_okq (⟨"FontOutlines$Outline", "addsContours", "(I)Z"⟩, 10) := ⟨⟨by decide +kernel, by decide +kernel⟩, List.mem_of_getElem? (i := 148) (by decide +kernel), List.mem_of_getElem? (i := 518) (by decide +kernel), List.mem_of_getElem? (i := 519) (by decide +kernel)⟩
theorem lw_p22 : lw_okq (⟨"FontOutlines$Outline", "readsFlags", "(I)Z"⟩, 10) := ⟨⟨by decide +kernel, by decide +kernel⟩, List.mem_of_getElem? (i := 148) (by decide +kernel), List.mem_of_getElem? (i := 522) (by decide +kernel), List.mem_of_getElem? (i := 523) (by decide +kernel)⟩
theorem lw_p23 : lw_okq (⟨"FontOutlines$Outline", "readsAxis", "([IIII)Z"⟩, 10) := ⟨⟨by decide +kernel, by decide +kernel⟩, List.mem_of_getElem? (i := 148) (by decide +kernel), List.mem_of_getElem? (i := 527) (by decide +kernel), List.mem_of_getElem? (i := 528) (by decide +kernel)⟩
theorem lw_p24 : lw_okq (⟨"java/lang/Throwable", "fillInStackTrace", "(I)Ljava/lang/Throwable;"⟩, 6) := ⟨⟨by decide +kernel, by decide +kernel⟩, List.mem_of_getElem? (i := 578) (by decide +kernel), List.mem_of_getElem? (i := 576) (by decide +kernel), List.mem_of_getElem? (i := 577) (by decide +kernel)⟩
theorem lw_p25 : lw_okq (⟨"FontOutlines", "needFont", "()V"⟩, 6) := ⟨⟨by decide +kernel, by decide +kernel⟩, List.mem_of_getElem? (i := 21) (by decide +kernel), List.mem_of_getElem? (i := 643) (by decide +kernel), List.mem_of_getElem? (i := 644) (by decide +kernel)⟩
theorem lw_p26 : lw_okq (⟨"FontOutlines$CharacterMap", "glyphByGroups", "(I)J"⟩, 4) := ⟨⟨by decide +kernel, by decide +kernel⟩, List.mem_of_getElem? (i := 77) (by decide +kernel), List.mem_of_getElem? (i := 669) (by decide +kernel), List.mem_of_getElem? (i := 670) (by decide +kernel)⟩
theorem lw_p27 : lw_okq (⟨"FontOutlines$CharacterMap", "glyphBySegments", "(I)I"⟩, 4) := ⟨⟨by decide +kernel, by decide +kernel⟩, List.mem_of_getElem? (i := 77) (by decide +kernel), List.mem_of_getElem? (i := 674) (by decide +kernel), List.mem_of_getElem? (i := 675) (by decide +kernel)⟩
theorem lw_p28 : lw_okq (⟨"FontOutlines$CharacterMap", "glyphBySegment", "(II)I"⟩, 4) := ⟨⟨by decide +kernel, by decide +kernel⟩, List.mem_of_getElem? (i := 77) (by decide +kernel), List.mem_of_getElem? (i := 678) (by decide +kernel), List.mem_of_getElem? (i := 679) (by decide +kernel)⟩
theorem lw_p29 : lw_okq (⟨"FontOutlines", "isGlyph", "(I)Z"⟩, 6) := ⟨⟨by decide +kernel, by decide +kernel⟩, List.mem_of_getElem? (i := 21) (by decide +kernel), List.mem_of_getElem? (i := 690) (by decide +kernel), List.mem_of_getElem? (i := 691) (by decide +kernel)⟩
theorem lw_p30 : lw_okq (⟨"FontOutlines", "show", "(I)V"⟩, 6) := ⟨⟨by decide +kernel, by decide +kernel⟩, List.mem_of_getElem? (i := 21) (by decide +kernel), List.mem_of_getElem? (i := 695) (by decide +kernel), List.mem_of_getElem? (i := 696) (by decide +kernel)⟩
theorem lw_p31 : lw_okq (⟨"FontOutlinesModel", "put4", "(I)V"⟩, 32) := ⟨⟨by decide +kernel, by decide +kernel⟩, List.mem_of_getElem? (i := 741) (by decide +kernel), List.mem_of_getElem? (i := 860) (by decide +kernel), List.mem_of_getElem? (i := 861) (by decide +kernel)⟩
def lw_privs_2 : List (MethodName × Nat) := [(⟨"FontOutlines$Part", "number", "()I"⟩, 9), (⟨"FontOutlines$Part", "readFactors", "()V"⟩, 9), (⟨"FontOutlines$Outline", "isLaid", "(LFontOutlines$Part;II)Z"⟩, 10), (⟨"FontOutlines$Outline", "isCoordinate", "(I)Z"⟩, 10), (⟨"FontOutlines$Outline", "addsSimple", "(I)Z"⟩, 10), (⟨"FontOutlines$Outline", "addsContours", "(I)Z"⟩, 10), (⟨"FontOutlines$Outline", "readsFlags", "(I)Z"⟩, 10), (⟨"FontOutlines$Outline", "readsAxis", "([IIII)Z"⟩, 10), (⟨"java/lang/Throwable", "fillInStackTrace", "(I)Ljava/lang/Throwable;"⟩, 6), (⟨"FontOutlines", "needFont", "()V"⟩, 6), (⟨"FontOutlines$CharacterMap", "glyphByGroups", "(I)J"⟩, 4), (⟨"FontOutlines$CharacterMap", "glyphBySegments", "(I)I"⟩, 4), (⟨"FontOutlines$CharacterMap", "glyphBySegment", "(II)I"⟩, 4), (⟨"FontOutlines", "isGlyph", "(I)Z"⟩, 6), (⟨"FontOutlines", "show", "(I)V"⟩, 6), (⟨"FontOutlinesModel", "put4", "(I)V"⟩, 32)]
theorem lw_r2 : ∀ q ∈ lw_privs_2, lw_okq q := List.forall_mem_cons.mpr ⟨lw_p16, List.forall_mem_cons.mpr ⟨lw_p17, List.forall_mem_cons.mpr ⟨lw_p18, List.forall_mem_cons.mpr ⟨lw_p19, List.forall_mem_cons.mpr ⟨lw_p20, List.forall_mem_cons.mpr ⟨lw_p21, List.forall_mem_cons.mpr ⟨lw_p22, List.forall_mem_cons.mpr ⟨lw_p23, List.forall_mem_cons.mpr ⟨lw_p24, List.forall_mem_cons.mpr ⟨lw_p25, List.forall_mem_cons.mpr ⟨lw_p26, List.forall_mem_cons.mpr ⟨lw_p27, List.forall_mem_cons.mpr ⟨lw_p28, List.forall_mem_cons.mpr ⟨lw_p29, List.forall_mem_cons.mpr ⟨lw_p30, List.forall_mem_cons.mpr ⟨lw_p31, fun _ h => absurd h List.not_mem_nil⟩⟩⟩⟩⟩⟩⟩⟩⟩⟩⟩⟩⟩⟩⟩⟩
theorem lw_p32 : lw_okq (⟨"FontOutlinesModel", "refused", "(I)Z"⟩, 32) := ⟨⟨by decide +kernel, by decide +kernel⟩, List.mem_of_getElem? (i := 741) (by decide +kernel), List.mem_of_getElem? (i := 868) (by decide +kernel), List.mem_of_getElem? (i := 869) (by decide +kernel)⟩
theorem lw_p33 : lw_okq (⟨"FontOutlinesModel", "checkFile", "()V"⟩, 32) := ⟨⟨by decide +kernel, by decide +kernel⟩, List.mem_of_getElem? (i := 741) (by decide +kernel), List.mem_of_getElem? (i := 884) (by decide +kernel), List.mem_of_getElem? (i := 885) (by decide +kernel)⟩
theorem lw_p34 : lw_okq (⟨"FontOutlinesModel", "u32", "(IJJ)J"⟩, 32) := ⟨⟨by decide +kernel, by decide +kernel⟩, List.mem_of_getElem? (i := 741) (by decide +kernel), List.mem_of_getElem? (i := 888) (by decide +kernel), List.mem_of_getElem? (i := 889) (by decide +kernel)⟩
theorem lw_p35 : lw_okq (⟨"FontOutlinesModel", "u16", "(IJJ)I"⟩, 32) := ⟨⟨by decide +kernel, by decide +kernel⟩, List.mem_of_getElem? (i := 741) (by decide +kernel), List.mem_of_getElem? (i := 893) (by decide +kernel), List.mem_of_getElem? (i := 894) (by decide +kernel)⟩
theorem lw_p36 : lw_okq (⟨"FontOutlinesModel", "u8", "(IJJ)I"⟩, 32) := ⟨⟨by decide +kernel, by decide +kernel⟩, List.mem_of_getElem? (i := 741) (by decide +kernel), List.mem_of_getElem? (i := 897) (by decide +kernel), List.mem_of_getElem? (i := 898) (by decide +kernel)⟩
theorem lw_p37 : lw_okq (⟨"FontOutlinesModel", "need", "(Z)V"⟩, 32) := ⟨⟨by decide +kernel, by decide +kernel⟩, List.mem_of_getElem? (i := 741) (by decide +kernel), List.mem_of_getElem? (i := 901) (by decide +kernel), List.mem_of_getElem? (i := 902) (by decide +kernel)⟩
theorem lw_p38 : lw_okq (⟨"FontOutlinesModel", "tables", "()I"⟩, 32) := ⟨⟨by decide +kernel, by decide +kernel⟩, List.mem_of_getElem? (i := 741) (by decide +kernel), List.mem_of_getElem? (i := 906) (by decide +kernel), List.mem_of_getElem? (i := 907) (by decide +kernel)⟩
theorem lw_p39 : lw_okq (⟨"FontOutlinesModel", "checkSums", "()V"⟩, 32) := ⟨⟨by decide +kernel, by decide +kernel⟩, List.mem_of_getElem? (i := 741) (by decide +kernel), List.mem_of_getElem? (i := 915) (by decide +kernel), List.mem_of_getElem? (i := 916) (by decide +kernel)⟩
theorem lw_p40 : lw_okq (⟨"FontOutlinesModel", "sumOf", "(JJ)J"⟩, 32) := ⟨⟨by decide +kernel, by decide +kernel⟩, List.mem_of_getElem? (i := 741) (by decide +kernel), List.mem_of_getElem? (i := 919) (by decide +kernel), List.mem_of_getElem? (i := 920) (by decide +kernel)⟩
theorem lw_p41 : lw_okq (⟨"FontOutlinesModel", "findTables", "()V"⟩, 32) := ⟨⟨by decide +kernel, by decide +kernel⟩, List.mem_of_getElem? (i := 741) (by decide +kernel), List.mem_of_getElem? (i := 925) (by decide +kernel), List.mem_of_getElem? (i := 926) (by decide +kernel)⟩
theorem lw_p42 : lw_okq (⟨"FontOutlinesModel", "checkForms", "()V"⟩, 32) := ⟨⟨by decide +kernel, by decide +kernel⟩, List.mem_of_getElem? (i := 741) (by decide +kernel), List.mem_of_getElem? (i := 929) (by decide +kernel), List.mem_of_getElem? (i := 930) (by decide +kernel)⟩
theorem lw_p43 : lw_okq (⟨"FontOutlinesModel", "t16", "(IJ)I"⟩, 32) := ⟨⟨by decide +kernel, by decide +kernel⟩, List.mem_of_getElem? (i := 741) (by decide +kernel), List.mem_of_getElem? (i := 934) (by decide +kernel), List.mem_of_getElem? (i := 935) (by decide +kernel)⟩
theorem lw_p44 : lw_okq (⟨"FontOutlinesModel", "tableAt", "(I)I"⟩, 32) := ⟨⟨by decide +kernel, by decide +kernel⟩, List.mem_of_getElem? (i := 741) (by decide +kernel), List.mem_of_getElem? (i := 938) (by decide +kernel), List.mem_of_getElem? (i := 939) (by decide +kernel)⟩
theorem lw_p45 : lw_okq (⟨"FontOutlinesModel", "tableLength", "(I)I"⟩, 32) := ⟨⟨by decide +kernel, by decide +kernel⟩, List.mem_of_getElem? (i := 741) (by decide +kernel), List.mem_of_getElem? (i := 942) (by decide +kernel), List.mem_of_getElem? (i := 943) (by decide +kernel)⟩
theorem lw_p46 : lw_okq (⟨"FontOutlinesModel", "glyphCount", "()I"⟩, 32) := ⟨⟨by decide +kernel, by decide +kernel⟩, List.mem_of_getElem? (i := 741) (by decide +kernel), List.mem_of_getElem? (i := 947) (by decide +kernel), List.mem_of_getElem? (i := 948) (by decide +kernel)⟩
theorem lw_p47 : lw_okq (⟨"FontOutlinesModel", "longCount", "()I"⟩, 32) := ⟨⟨by decide +kernel, by decide +kernel⟩, List.mem_of_getElem? (i := 741) (by decide +kernel), List.mem_of_getElem? (i := 951) (by decide +kernel), List.mem_of_getElem? (i := 952) (by decide +kernel)⟩
def lw_privs_3 : List (MethodName × Nat) := [(⟨"FontOutlinesModel", "refused", "(I)Z"⟩, 32), (⟨"FontOutlinesModel", "checkFile", "()V"⟩, 32), (⟨"FontOutlinesModel", "u32", "(IJJ)J"⟩, 32), (⟨"FontOutlinesModel", "u16", "(IJJ)I"⟩, 32), (⟨"FontOutlinesModel", "u8", "(IJJ)I"⟩, 32), (⟨"FontOutlinesModel", "need", "(Z)V"⟩, 32), (⟨"FontOutlinesModel", "tables", "()I"⟩, 32), (⟨"FontOutlinesModel", "checkSums", "()V"⟩, 32), (⟨"FontOutlinesModel", "sumOf", "(JJ)J"⟩, 32), (⟨"FontOutlinesModel", "findTables", "()V"⟩, 32), (⟨"FontOutlinesModel", "checkForms", "()V"⟩, 32), (⟨"FontOutlinesModel", "t16", "(IJ)I"⟩, 32), (⟨"FontOutlinesModel", "tableAt", "(I)I"⟩, 32), (⟨"FontOutlinesModel", "tableLength", "(I)I"⟩, 32), (⟨"FontOutlinesModel", "glyphCount", "()I"⟩, 32), (⟨"FontOutlinesModel", "longCount", "()I"⟩, 32)]
theorem lw_r3 : ∀ q ∈ lw_privs_3, lw_okq q := List.forall_mem_cons.mpr ⟨lw_p32, List.forall_mem_cons.mpr ⟨lw_p33, List.forall_mem_cons.mpr ⟨lw_p34, List.forall_mem_cons.mpr ⟨lw_p35, List.forall_mem_cons.mpr ⟨lw_p36, List.forall_mem_cons.mpr ⟨lw_p37, List.forall_mem_cons.mpr ⟨lw_p38, List.forall_mem_cons.mpr ⟨lw_p39, List.forall_mem_cons.mpr ⟨lw_p40, List.forall_mem_cons.mpr ⟨lw_p41, List.forall_mem_cons.mpr ⟨lw_p42, List.forall_mem_cons.mpr ⟨lw_p43, List.forall_mem_cons.mpr ⟨lw_p44, List.forall_mem_cons.mpr ⟨lw_p45, List.forall_mem_cons.mpr ⟨lw_p46, List.forall_mem_cons.mpr ⟨lw_p47, fun _ h => absurd h List.not_mem_nil⟩⟩⟩⟩⟩⟩⟩⟩⟩⟩⟩⟩⟩⟩⟩⟩
theorem lw_p48 : lw_okq (⟨"FontOutlinesModel", "dataAt", "(I)J"⟩, 32) := ⟨⟨by decide +kernel, by decide +kernel⟩, List.mem_of_getElem? (i := 741) (by decide +kernel), List.mem_of_getElem? (i := 956) (by decide +kernel), List.mem_of_getElem? (i := 957) (by decide +kernel)⟩
theorem lw_p49 : lw_okq (⟨"FontOutlinesModel", "t32", "(IJ)J"⟩, 32) := ⟨⟨by decide +kernel, by decide +kernel⟩, List.mem_of_getElem? (i := 741) (by decide +kernel), List.mem_of_getElem? (i := 960) (by decide +kernel), List.mem_of_getElem? (i := 961) (by decide +kernel)⟩
theorem lw_p50 : lw_okq (⟨"FontOutlinesModel", "checkMap", "()V"⟩, 32) := ⟨⟨by decide +kernel, by decide +kernel⟩, List.mem_of_getElem? (i := 741) (by decide +kernel), List.mem_of_getElem? (i := 964) (by decide +kernel), List.mem_of_getElem? (i := 965) (by decide +kernel)⟩
theorem lw_p51 : lw_okq (⟨"FontOutlinesModel", "hasMap", "(Z)Z"⟩, 32) := ⟨⟨by decide +kernel, by decide +kernel⟩, List.mem_of_getElem? (i := 741) (by decide +kernel), List.mem_of_getElem? (i := 968) (by decide +kernel), List.mem_of_getElem? (i := 969) (by decide +kernel)⟩
theorem lw_p52 : lw_okq (⟨"FontOutlinesModel", "mapAt", "(Z)J"⟩, 32) := ⟨⟨by decide +kernel, by decide +kernel⟩, List.mem_of_getElem? (i := 741) (by decide +kernel), List.mem_of_getElem? (i := 972) (by decide +kernel), List.mem_of_getElem? (i := 973) (by decide +kernel)⟩
theorem lw_p53 : lw_okq (⟨"FontOutlinesModel", "checkGroups", "(J)V"⟩, 32) := ⟨⟨by decide +kernel, by decide +kernel⟩, List.mem_of_getElem? (i := 741) (by decide +kernel), List.mem_of_getElem? (i := 976) (by decide +kernel), List.mem_of_getElem? (i := 977) (by decide +kernel)⟩
theorem lw_p54 : lw_okq (⟨"FontOutlinesModel", "checkSegments", "(J)V"⟩, 32) := ⟨⟨by decide +kernel, by decide +kernel⟩, List.mem_of_getElem? (i := 741) (by decide +kernel), List.mem_of_getElem? (i := 981) (by decide +kernel), List.mem_of_getElem? (i := 982) (by decide +kernel)⟩
theorem lw_p55 : lw_okq (⟨"FontOutlinesModel", "checkGlyphs", "()V"⟩, 32) := ⟨⟨by decide +kernel, by decide +kernel⟩, List.mem_of_getElem? (i := 741) (by decide +kernel), List.mem_of_getElem? (i := 989) (by decide +kernel), List.mem_of_getElem? (i := 990) (by decide +kernel)⟩
theorem lw_p56 : lw_okq (⟨"FontOutlinesModel", "readGlyph", "(I)V"⟩, 32) := ⟨⟨by decide +kernel, by decide +kernel⟩, List.mem_of_getElem? (i := 741) (by decide +kernel), List.mem_of_getElem? (i := 993) (by decide +kernel), List.mem_of_getElem? (i := 994) (by decide +kernel)⟩
theorem lw_p57 : lw_okq (⟨"FontOutlinesModel", "begin", "(II)V"⟩, 32) := ⟨⟨by decide +kernel, by decide +kernel⟩, List.mem_of_getElem? (i := 741) (by decide +kernel), List.mem_of_getElem? (i := 997) (by decide +kernel), List.mem_of_getElem? (i := 998) (by decide +kernel)⟩
theorem lw_p58 : lw_okq (⟨"FontOutlinesModel", "s16", "(IJJ)I"⟩, 32) := ⟨⟨by decide +kernel, by decide +kernel⟩, List.mem_of_getElem? (i := 741) (by decide +kernel), List.mem_of_getElem? (i := 1001) (by decide +kernel), List.mem_of_getElem? (i := 1002) (by decide +kernel)⟩
theorem lw_p59 : lw_okq (⟨"FontOutlinesModel", "readSimple", "(IIII)V"⟩, 32) := ⟨⟨by decide +kernel, by decide +kernel⟩, List.mem_of_getElem? (i := 741) (by decide +kernel), List.mem_of_getElem? (i := 1006) (by decide +kernel), List.mem_of_getElem? (i := 1007) (by decide +kernel)⟩
theorem lw_p60 : lw_okq (⟨"FontOutlinesModel", "readFlags", "(IIJII)J"⟩, 32) := ⟨⟨by decide +kernel, by decide +kernel⟩, List.mem_of_getElem? (i := 741) (by decide +kernel), List.mem_of_getElem? (i := 1011) (by decide +kernel), List.mem_of_getElem? (i := 1012) (by decide +kernel)⟩
theorem lw_p61 : lw_okq (⟨"FontOutlinesModel", "readSteps", "(IIJIIZ)J"⟩, 32) := ⟨⟨by decide +kernel, by decide +kernel⟩, List.mem_of_getElem? (i := 741) (by decide +kernel), List.mem_of_getElem? (i := 1015) (by decide +kernel), List.mem_of_getElem? (i := 1016) (by decide +kernel)⟩
theorem lw_p62 : lw_okq (⟨"FontOutlinesModel", "readPart", "(I)I"⟩, 32) := ⟨⟨by decide +kernel, by decide +kernel⟩, List.mem_of_getElem? (i := 741) (by decide +kernel), List.mem_of_getElem? (i := 1024) (by decide +kernel), List.mem_of_getElem? (i := 1025) (by decide +kernel)⟩
theorem lw_p63 : lw_okq (⟨"FontOutlinesModel", "number", "(IJZZ)I"⟩, 32) := ⟨⟨by decide +kernel, by decide +kernel⟩, List.mem_of_getElem? (i := 741) (by decide +kernel), List.mem_of_getElem? (i := 1028) (by decide +kernel), List.mem_of_getElem? (i := 1029) (by decide +kernel)⟩
def lw_privs_4 : List (MethodName × Nat) := [(⟨"FontOutlinesModel", "dataAt", "(I)J"⟩, 32), (⟨"FontOutlinesModel", "t32", "(IJ)J"⟩, 32), (⟨"FontOutlinesModel", "checkMap", "()V"⟩, 32), (⟨"FontOutlinesModel", "hasMap", "(Z)Z"⟩, 32), (⟨"FontOutlinesModel", "mapAt", "(Z)J"⟩, 32), (⟨"FontOutlinesModel", "checkGroups", "(J)V"⟩, 32), (⟨"FontOutlinesModel", "checkSegments", "(J)V"⟩, 32), (⟨"FontOutlinesModel", "checkGlyphs", "()V"⟩, 32), (⟨"FontOutlinesModel", "readGlyph", "(I)V"⟩, 32), (⟨"FontOutlinesModel", "begin", "(II)V"⟩, 32), (⟨"FontOutlinesModel", "s16", "(IJJ)I"⟩, 32), (⟨"FontOutlinesModel", "readSimple", "(IIII)V"⟩, 32), (⟨"FontOutlinesModel", "readFlags", "(IIJII)J"⟩, 32), (⟨"FontOutlinesModel", "readSteps", "(IIJIIZ)J"⟩, 32), (⟨"FontOutlinesModel", "readPart", "(I)I"⟩, 32), (⟨"FontOutlinesModel", "number", "(IJZZ)I"⟩, 32)]
theorem lw_r4 : ∀ q ∈ lw_privs_4, lw_okq q := List.forall_mem_cons.mpr ⟨lw_p48, List.forall_mem_cons.mpr ⟨lw_p49, List.forall_mem_cons.mpr ⟨lw_p50, List.forall_mem_cons.mpr ⟨lw_p51, List.forall_mem_cons.mpr ⟨lw_p52, List.forall_mem_cons.mpr ⟨lw_p53, List.forall_mem_cons.mpr ⟨lw_p54, List.forall_mem_cons.mpr ⟨lw_p55, List.forall_mem_cons.mpr ⟨lw_p56, List.forall_mem_cons.mpr ⟨lw_p57, List.forall_mem_cons.mpr ⟨lw_p58, List.forall_mem_cons.mpr ⟨lw_p59, List.forall_mem_cons.mpr ⟨lw_p60, List.forall_mem_cons.mpr ⟨lw_p61, List.forall_mem_cons.mpr ⟨lw_p62, List.forall_mem_cons.mpr ⟨lw_p63, fun _ h => absurd h List.not_mem_nil⟩⟩⟩⟩⟩⟩⟩⟩⟩⟩⟩⟩⟩⟩⟩⟩
theorem lw_p64 : lw_okq (⟨"FontOutlinesModel", "f16", "(IJ)I"⟩, 32) := ⟨⟨by decide +kernel, by decide +kernel⟩, List.mem_of_getElem? (i := 741) (by decide +kernel), List.mem_of_getElem? (i := 1034) (by decide +kernel), List.mem_of_getElem? (i := 1035) (by decide +kernel)⟩
theorem lw_p65 : lw_okq (⟨"FontOutlinesModel", "join", "(I)V"⟩, 32) := ⟨⟨by decide +kernel, by decide +kernel⟩, List.mem_of_getElem? (i := 741) (by decide +kernel), List.mem_of_getElem? (i := 1038) (by decide +kernel), List.mem_of_getElem? (i := 1039) (by decide +kernel)⟩
theorem lw_p66 : lw_okq (⟨"FontOutlinesModel", "groupGlyph", "(I)I"⟩, 32) := ⟨⟨by decide +kernel, by decide +kernel⟩, List.mem_of_getElem? (i := 741) (by decide +kernel), List.mem_of_getElem? (i := 1051) (by decide +kernel), List.mem_of_getElem? (i := 1052) (by decide +kernel)⟩
theorem lw_p67 : lw_okq (⟨"FontOutlinesModel", "segmentGlyph", "(I)I"⟩, 32) := ⟨⟨by decide +kernel, by decide +kernel⟩, List.mem_of_getElem? (i := 741) (by decide +kernel), List.mem_of_getElem? (i := 1055) (by decide +kernel), List.mem_of_getElem? (i := 1056) (by decide +kernel)⟩
theorem lw_p68 : lw_okq (⟨"FontOutlinesModel", "isGlyph", "(I)Z"⟩, 32) := ⟨⟨by decide +kernel, by decide +kernel⟩, List.mem_of_getElem? (i := 741) (by decide +kernel), List.mem_of_getElem? (i := 1063) (by decide +kernel), List.mem_of_getElem? (i := 1064) (by decide +kernel)⟩
theorem lw_p69 : lw_okq (⟨"FontOutlinesModel", "lends", "(I)I"⟩, 32) := ⟨⟨by decide +kernel, by decide +kernel⟩, List.mem_of_getElem? (i := 741) (by decide +kernel), List.mem_of_getElem? (i := 1067) (by decide +kernel), List.mem_of_getElem? (i := 1068) (by decide +kernel)⟩
theorem lw_p70 : lw_okq (⟨"FontOutlinesModel", "width", "(I)I"⟩, 32) := ⟨⟨by decide +kernel, by decide +kernel⟩, List.mem_of_getElem? (i := 741) (by decide +kernel), List.mem_of_getElem? (i := 1071) (by decide +kernel), List.mem_of_getElem? (i := 1072) (by decide +kernel)⟩
theorem lw_p71 : lw_okq (⟨"FontOutlinesModel", "left", "(I)I"⟩, 32) := ⟨⟨by decide +kernel, by decide +kernel⟩, List.mem_of_getElem? (i := 741) (by decide +kernel), List.mem_of_getElem? (i := 1075) (by decide +kernel), List.mem_of_getElem? (i := 1076) (by decide +kernel)⟩
theorem lw_p72 : lw_okq (⟨"FontOutlinesModel", "bound", "(ZZ)I"⟩, 32) := ⟨⟨by decide +kernel, by decide +kernel⟩, List.mem_of_getElem? (i := 741) (by decide +kernel), List.mem_of_getElem? (i := 1079) (by decide +kernel), List.mem_of_getElem? (i := 1080) (by decide +kernel)⟩
def lw_privs_5 : List (MethodName × Nat) := [(⟨"FontOutlinesModel", "f16", "(IJ)I"⟩, 32), (⟨"FontOutlinesModel", "join", "(I)V"⟩, 32), (⟨"FontOutlinesModel", "groupGlyph", "(I)I"⟩, 32), (⟨"FontOutlinesModel", "segmentGlyph", "(I)I"⟩, 32), (⟨"FontOutlinesModel", "isGlyph", "(I)Z"⟩, 32), (⟨"FontOutlinesModel", "lends", "(I)I"⟩, 32), (⟨"FontOutlinesModel", "width", "(I)I"⟩, 32), (⟨"FontOutlinesModel", "left", "(I)I"⟩, 32), (⟨"FontOutlinesModel", "bound", "(ZZ)I"⟩, 32)]
theorem lw_r5 : ∀ q ∈ lw_privs_5, lw_okq q := List.forall_mem_cons.mpr ⟨lw_p64, List.forall_mem_cons.mpr ⟨lw_p65, List.forall_mem_cons.mpr ⟨lw_p66, List.forall_mem_cons.mpr ⟨lw_p67, List.forall_mem_cons.mpr ⟨lw_p68, List.forall_mem_cons.mpr ⟨lw_p69, List.forall_mem_cons.mpr ⟨lw_p70, List.forall_mem_cons.mpr ⟨lw_p71, List.forall_mem_cons.mpr ⟨lw_p72, fun _ h => absurd h List.not_mem_nil⟩⟩⟩⟩⟩⟩⟩⟩⟩
def lw_privs : List (MethodName × Nat) := lw_privs_1 ++ (lw_privs_2 ++ (lw_privs_3 ++ (lw_privs_4 ++ (lw_privs_5))))
def lw_tbl : List Cond := k2_sels lw_privs ++ tables_1
theorem lw_privs_ok : ∀ q ∈ lw_privs, lw_okq q := by
  show ∀ q ∈ lw_privs_1 ++ (lw_privs_2 ++ (lw_privs_3 ++ (lw_privs_4 ++ (lw_privs_5)))), lw_okq q
  exact List.forall_mem_append.mpr ⟨lw_r1, List.forall_mem_append.mpr ⟨lw_r2, List.forall_mem_append.mpr ⟨lw_r3, List.forall_mem_append.mpr ⟨lw_r4, lw_r5⟩⟩⟩⟩
end
section
theorem q_l02 : 0 < 2 := by decide
theorem q_l12 : 1 < 2 := by decide
theorem q_l04 : 0 < 4 := by decide
theorem q_l14 : 1 < 4 := by decide
theorem q_l24 : 2 < 4 := by decide
theorem q_l34 : 3 < 4 := by decide
def q_T0 : u_T := fun k => match k with
  | 0 => ("FontOutlines$Bytes", "row", "[B", false)
  | _ => ("FontOutlines$Bytes", "size", "I", false)
def q_t0 : Nat → FieldType := fun k => match k with
  | 0 => (.array .byte)
  | _ => .int
def q_T1 : u_T := fun k => match k with
  | 0 => ("FontOutlines$CharacterMap", "cmap", "LFontOutlines$Table;", true)
  | 1 => ("FontOutlines$CharacterMap", "ofGroups", "Z", false)
  | 2 => ("FontOutlines$CharacterMap", "place", "I", false)
  | _ => ("FontOutlines$CharacterMap", "many", "I", false)
def q_t1 : Nat → FieldType := fun k => match k with
  | 0 => (.object "FontOutlines$Table")
  | 1 => .boolean
  | 2 => .int
  | _ => .int
def q_T2 : u_T := fun k => match k with
  | 0 => ("FontOutlines$Cursor", "file", "LFontOutlines$Bytes;", false)
  | 1 => ("FontOutlines$Cursor", "place", "I", false)
  | 2 => ("FontOutlines$Cursor", "end", "I", false)
  | _ => ("FontOutlines$Cursor", "ranOut", "Z", false)
def q_t2 : Nat → FieldType := fun k => match k with
  | 0 => (.object "FontOutlines$Bytes")
  | 1 => .int
  | 2 => .int
  | _ => .boolean
def q_T3 : u_T := fun k => match k with
  | 0 => ("FontOutlines$Font", "bytes", "LFontOutlines$Bytes;", true)
  | 1 => ("FontOutlines$Font", "whole", "LFontOutlines$Table;", true)
  | 2 => ("FontOutlines$Font", "summed", "LFontOutlines$Table;", true)
  | 3 => ("FontOutlines$Font", "cmap", "LFontOutlines$Table;", true)
  | 4 => ("FontOutlines$Font", "glyf", "LFontOutlines$Table;", true)
  | 5 => ("FontOutlines$Font", "head", "LFontOutlines$Table;", true)
  | 6 => ("FontOutlines$Font", "hhea", "LFontOutlines$Table;", true)
  | 7 => ("FontOutlines$Font", "hmtx", "LFontOutlines$Table;", true)
  | 8 => ("FontOutlines$Font", "loca", "LFontOutlines$Table;", true)
  | 9 => ("FontOutlines$Font", "maxp", "LFontOutlines$Table;", true)
  | 10 => ("FontOutlines$Font", "map", "LFontOutlines$CharacterMap;", true)
  | 11 => ("FontOutlines$Font", "em", "I", false)
  | 12 => ("FontOutlines$Font", "glyphs", "I", false)
  | 13 => ("FontOutlines$Font", "widths", "I", false)
  | _ => ("FontOutlines$Font", "longPlaces", "Z", false)
def q_t3 : Nat → FieldType := fun k => match k with
  | 0 => (.object "FontOutlines$Bytes")
  | 1 => (.object "FontOutlines$Table")
  | 2 => (.object "FontOutlines$Table")
  | 3 => (.object "FontOutlines$Table")
  | 4 => (.object "FontOutlines$Table")
  | 5 => (.object "FontOutlines$Table")
  | 6 => (.object "FontOutlines$Table")
  | 7 => (.object "FontOutlines$Table")
  | 8 => (.object "FontOutlines$Table")
  | 9 => (.object "FontOutlines$Table")
  | 10 => (.object "FontOutlines$CharacterMap")
  | 11 => .int
  | 12 => .int
  | 13 => .int
  | _ => .boolean
def q_T4 : u_T := fun k => match k with
  | 0 => ("FontOutlines$Outline", "x", "[I", true)
  | 1 => ("FontOutlines$Outline", "y", "[I", true)
  | 2 => ("FontOutlines$Outline", "flags", "[I", true)
  | 3 => ("FontOutlines$Outline", "contour", "[I", true)
  | 4 => ("FontOutlines$Outline", "data", "LFontOutlines$Cursor;", true)
  | 5 => ("FontOutlines$Outline", "parts", "[LFontOutlines$Part;", true)
  | 6 => ("FontOutlines$Outline", "points", "I", false)
  | 7 => ("FontOutlines$Outline", "contours", "I", false)
  | 8 => ("FontOutlines$Outline", "partsRead", "I", false)
  | _ => ("FontOutlines$Outline", "widthGlyph", "I", false)
def q_t4 : Nat → FieldType := fun k => match k with
  | 0 => (.array .int)
  | 1 => (.array .int)
  | 2 => (.array .int)
  | 3 => (.array .int)
  | 4 => (.object "FontOutlines$Cursor")
  | 5 => (.array (.object "FontOutlines$Part"))
  | 6 => .int
  | 7 => .int
  | 8 => .int
  | _ => .int
def q_T5 : u_T := fun k => match k with
  | 0 => ("FontOutlines$Part", "data", "LFontOutlines$Cursor;", true)
  | 1 => ("FontOutlines$Part", "flags", "I", false)
  | 2 => ("FontOutlines$Part", "child", "I", false)
  | 3 => ("FontOutlines$Part", "p", "I", false)
  | 4 => ("FontOutlines$Part", "q", "I", false)
  | 5 => ("FontOutlines$Part", "a", "I", false)
  | 6 => ("FontOutlines$Part", "b", "I", false)
  | 7 => ("FontOutlines$Part", "c", "I", false)
  | _ => ("FontOutlines$Part", "d", "I", false)
def q_t5 : Nat → FieldType := fun k => match k with
  | 0 => (.object "FontOutlines$Cursor")
  | 1 => .int
  | 2 => .int
  | 3 => .int
  | 4 => .int
  | 5 => .int
  | 6 => .int
  | 7 => .int
  | _ => .int
def q_T6 : u_T := fun k => match k with
  | 0 => ("FontOutlines$Table", "file", "LFontOutlines$Bytes;", true)
  | 1 => ("FontOutlines$Table", "start", "I", false)
  | _ => ("FontOutlines$Table", "length", "I", false)
def q_t6 : Nat → FieldType := fun k => match k with
  | 0 => (.object "FontOutlines$Bytes")
  | 1 => .int
  | _ => .int
def q_T7 : u_T := fun k => match k with
  | 0 => ("FontOutlines", "file", "LFontOutlines$Bytes;", true)
  | 1 => ("FontOutlines", "outline", "LFontOutlines$Outline;", true)
  | 2 => ("FontOutlines", "current", "LFontOutlines$Font;", false)
  | 3 => ("FontOutlines", "spare", "LFontOutlines$Font;", false)
  | 4 => ("FontOutlines", "loaded", "Z", false)
  | _ => ("FontOutlines", "shown", "I", false)
def q_t7 : Nat → FieldType := fun k => match k with
  | 0 => (.object "FontOutlines$Bytes")
  | 1 => (.object "FontOutlines$Outline")
  | 2 => (.object "FontOutlines$Font")
  | 3 => (.object "FontOutlines$Font")
  | 4 => .boolean
  | _ => .int
def q_T8 : u_T := fun k => match k with
  | 0 => ("FontOutlinesModel", "fault", "I", false)
  | 1 => ("FontOutlinesModel", "size", "I", false)
  | 2 => ("FontOutlinesModel", "tape", "[I", true)
  | 3 => ("FontOutlinesModel", "font", "[I", true)
  | 4 => ("FontOutlinesModel", "isFont", "Z", false)
  | 5 => ("FontOutlinesModel", "isWide", "Z", false)
  | 6 => ("FontOutlinesModel", "ofFont", "Z", false)
  | 7 => ("FontOutlinesModel", "bad", "Z", false)
  | 8 => ("FontOutlinesModel", "names", "[I", true)
  | 9 => ("FontOutlinesModel", "places", "[I", true)
  | 10 => ("FontOutlinesModel", "lengths", "[I", true)
  | 11 => ("FontOutlinesModel", "xs", "[I", true)
  | 12 => ("FontOutlinesModel", "ys", "[I", true)
  | 13 => ("FontOutlinesModel", "on", "[Z", true)
  | 14 => ("FontOutlinesModel", "contours", "[I", true)
  | 15 => ("FontOutlinesModel", "flags", "[I", true)
  | 16 => ("FontOutlinesModel", "points", "[I", true)
  | 17 => ("FontOutlinesModel", "rings", "[I", true)
  | 18 => ("FontOutlinesModel", "partCount", "[I", true)
  | 19 => ("FontOutlinesModel", "told", "[I", true)
  | 20 => ("FontOutlinesModel", "windows", "[I", true)
  | 21 => ("FontOutlinesModel", "limits", "[I", true)
  | 22 => ("FontOutlinesModel", "more", "[Z", true)
  | 23 => ("FontOutlinesModel", "partFlags", "[I", true)
  | 24 => ("FontOutlinesModel", "moveX", "[I", true)
  | 25 => ("FontOutlinesModel", "moveY", "[I", true)
  | 26 => ("FontOutlinesModel", "turnA", "[I", true)
  | 27 => ("FontOutlinesModel", "turnB", "[I", true)
  | 28 => ("FontOutlinesModel", "turnC", "[I", true)
  | 29 => ("FontOutlinesModel", "turnD", "[I", true)
  | 30 => ("FontOutlinesModel", "partsRead", "I", false)
  | _ => ("FontOutlinesModel", "lender", "I", false)
def q_t8 : Nat → FieldType := fun k => match k with
  | 0 => .int
  | 1 => .int
  | 2 => (.array .int)
  | 3 => (.array .int)
  | 4 => .boolean
  | 5 => .boolean
  | 6 => .boolean
  | 7 => .boolean
  | 8 => (.array .int)
  | 9 => (.array .int)
  | 10 => (.array .int)
  | 11 => (.array .int)
  | 12 => (.array .int)
  | 13 => (.array .boolean)
  | 14 => (.array .int)
  | 15 => (.array .int)
  | 16 => (.array .int)
  | 17 => (.array .int)
  | 18 => (.array .int)
  | 19 => (.array .int)
  | 20 => (.array .int)
  | 21 => (.array .int)
  | 22 => (.array .boolean)
  | 23 => (.array .int)
  | 24 => (.array .int)
  | 25 => (.array .int)
  | 26 => (.array .int)
  | 27 => (.array .int)
  | 28 => (.array .int)
  | 29 => (.array .int)
  | 30 => .int
  | _ => .int
def q_cl : List vw_C := [("FontOutlines$Bytes", q_T0, 2), ("FontOutlines$CharacterMap", q_T1, 4), ("FontOutlines$Cursor", q_T2, 4), ("FontOutlines$Font", q_T3, 15), ("FontOutlines$Outline", q_T4, 10), ("FontOutlines$Part", q_T5, 9), ("FontOutlines$Table", q_T6, 3), ("FontOutlines", q_T7, 6), ("FontOutlinesModel", q_T8, 32)]
def q_ow : List String := ["FontOutlines$Bytes", "FontOutlines$CharacterMap", "FontOutlines$Cursor", "FontOutlines$Font", "FontOutlines$Outline", "FontOutlines$Part", "FontOutlines$Table", "FontOutlines", "FontOutlinesModel", "FontOutlinesLaw", "java/lang/Math", "java/util/Arrays", "java/lang/Integer"]
def q_ty (ci k : Nat) : FieldType := match ci with
  | 0 => q_t0 k
  | 1 => q_t1 k
  | 2 => q_t2 k
  | 3 => q_t3 k
  | 4 => q_t4 k
  | 5 => q_t5 k
  | 6 => q_t6 k
  | 7 => q_t7 k
  | _ => q_t8 k
def q_has (i : Nat) (w : Cond) : Bool := (match lw_tbl[i]? with | some v => decide (v = w) | none => false) && goodWord w
def q_tbl : List Cond := lw_tbl.filter goodWord
theorem q_has_in {i : Nat} {w : Cond} (h : q_has i w = true) : w ∈ q_tbl := by
  unfold q_has at h
  rw [Bool.and_eq_true] at h
  obtain ⟨h1, h2⟩ := h
  cases hc : lw_tbl[i]? with
  | none => rw [hc] at h1; cases h1
  | some v =>
    rw [hc] at h1
    have e : v = w := of_decide_eq_true h1
    subst e
    exact List.mem_filter.mpr ⟨List.mem_of_getElem? hc, h2⟩
def q_hasL : List Nat → List Cond → Bool
  | [], [] => true
  | i :: is, w :: ws => q_has i w && q_hasL is ws
  | _, _ => false
theorem q_hasL_in : ∀ (is : List Nat) (ws : List Cond), q_hasL is ws = true → ∀ w ∈ ws, w ∈ q_tbl
  | [], [], _ => fun w h => by cases h
  | i :: is, w :: ws, h => fun v hv => by
    simp only [q_hasL, Bool.and_eq_true] at h
    rcases List.mem_cons.mp hv with rfl | hv
    · exact q_has_in h.1
    · exact q_hasL_in is ws h.2 v hv
  | [], _ :: _, h => by cases h
  | _ :: _, [], h => by cases h
theorem q_ci0 : ∀ w ∈ u_ws "FontOutlines$Bytes" q_T0 2, w ∈ q_tbl := q_hasL_in [115, 117] _ (by decide +kernel)
theorem q_ci1 : ∀ w ∈ u_ws "FontOutlines$CharacterMap" q_T1 4, w ∈ q_tbl := q_hasL_in [160, 162, 164, 166] _ (by decide +kernel)
theorem q_ci2 : ∀ w ∈ u_ws "FontOutlines$Cursor" q_T2 4, w ∈ q_tbl := q_hasL_in [238, 240, 242, 244] _ (by decide +kernel)
theorem q_ci3 : ∀ w ∈ u_ws "FontOutlines$Font" q_T3 15, w ∈ q_tbl := q_hasL_in [189, 191, 193, 195, 197, 199, 201, 203, 205, 207, 209, 211, 213, 215, 217] _ (by decide +kernel)
theorem q_ci4 : ∀ w ∈ u_ws "FontOutlines$Outline" q_T4 10, w ∈ q_tbl := q_hasL_in [306, 308, 310, 312, 314, 316, 318, 320, 322, 324] _ (by decide +kernel)
theorem q_ci5 : ∀ w ∈ u_ws "FontOutlines$Part" q_T5 9, w ∈ q_tbl := q_hasL_in [270, 272, 274, 276, 278, 280, 282, 284, 286] _ (by decide +kernel)
theorem q_ci6 : ∀ w ∈ u_ws "FontOutlines$Table" q_T6 3, w ∈ q_tbl := q_hasL_in [142, 144, 146] _ (by decide +kernel)
theorem q_ci7 : ∀ w ∈ u_ws "FontOutlines" q_T7 6, w ∈ q_tbl := q_hasL_in [333, 335, 337, 339, 341, 343] _ (by decide +kernel)
theorem q_ci8 : ∀ w ∈ u_ws "FontOutlinesModel" q_T8 32, w ∈ q_tbl := q_hasL_in [858, 860, 862, 864, 866, 868, 870, 872, 874, 876, 878, 880, 882, 884, 886, 888, 890, 892, 894, 896, 898, 900, 902, 904, 906, 908, 910, 912, 914, 916, 918, 920] _ (by decide +kernel)
theorem q_cok : ∀ (ci : Nat) (C : String) (T : u_T) (N : Nat), q_cl[ci]? = some (C, T, N) → (∀ w ∈ u_ws C T N, w ∈ q_tbl) ∧ (∀ k, k < N → parseFieldDescriptor (T k).2.2.1 = some (q_ty ci k)) ∧ (∀ a, a < N → ∀ b, b < N → a ≠ b → (T a).2.1 ≠ (T b).2.1) ∧ (∀ k, k < N → (T k).1 = C) := by
  intro ci C T N h
  match ci, h with
  | 0, h => cases h; exact ⟨q_ci0, by decide +kernel, by decide +kernel, by decide +kernel⟩
  | 1, h => cases h; exact ⟨q_ci1, by decide +kernel, by decide +kernel, by decide +kernel⟩
  | 2, h => cases h; exact ⟨q_ci2, by decide +kernel, by decide +kernel, by decide +kernel⟩
  | 3, h => cases h; exact ⟨q_ci3, by decide +kernel, by decide +kernel, by decide +kernel⟩
  | 4, h => cases h; exact ⟨q_ci4, by decide +kernel, by decide +kernel, by decide +kernel⟩
  | 5, h => cases h; exact ⟨q_ci5, by decide +kernel, by decide +kernel, by decide +kernel⟩
  | 6, h => cases h; exact ⟨q_ci6, by decide +kernel, by decide +kernel, by decide +kernel⟩
  | 7, h => cases h; exact ⟨q_ci7, by decide +kernel, by decide +kernel, by decide +kernel⟩
  | 8, h => cases h; exact ⟨q_ci8, by decide +kernel, by decide +kernel, by decide +kernel⟩
  | ci + 9, h => cases h
abbrev q_MT : Type := Nat × Nat
def q_cd (i : Nat) : MethodName × ByteArray × Nat × Option FieldType := match lw_tbl[i]? with
  | some (.code y b n r) => (y, b, n, r)
  | _ => (⟨"", "", ""⟩, ⟨#[]⟩, 0, none)
def q_isC (i : Nat) : Bool := match lw_tbl[i]? with
  | some (.code _ _ _ _) => true
  | _ => false
def q_y (M : q_MT) : MethodName := (q_cd M.2).1
def q_b (M : q_MT) : ByteArray := (q_cd M.2).2.1
def q_ln (M : q_MT) : Nat := (q_cd M.2).2.2.1
def q_r (M : q_MT) : Option FieldType := (q_cd M.2).2.2.2
theorem q_isC_in {i : Nat} (h : q_isC i = true) : Cond.code (q_cd i).1 (q_cd i).2.1 (q_cd i).2.2.1 (q_cd i).2.2.2 ∈ q_tbl := by
  unfold q_isC at h
  unfold q_cd
  cases hc : lw_tbl[i]? with
  | none => rw [hc] at h; cases h
  | some w =>
    rw [hc] at h
    cases w <;> first | exact List.mem_filter.mpr ⟨List.mem_of_getElem? hc, rfl⟩ | cases h
def q_okM (M : q_MT) : Bool := q_isC M.2 && decide (q_ow[M.1]? = some (q_y M).cls) && plainName (q_y M).cls && decide (q_ln M + 19 ≤ 64) && decide ((q_y M).cls ≠ "java/lang/invoke/MethodHandle" ∧ (q_y M).cls ≠ "java/lang/invoke/VarHandle")
def M_FO_init : q_MT := (7, 97)
theorem L_FO_init : q_ln M_FO_init = 1 := by decide +kernel
theorem r_FO_init : q_r M_FO_init = none := by decide +kernel
def M_By_init : q_MT := (0, 105)
theorem L_By_init : q_ln M_By_init = 1 := by decide +kernel
theorem r_By_init : q_r M_By_init = none := by decide +kernel
def M_Fo_init : q_MT := (3, 125)
theorem L_Fo_init : q_ln M_Fo_init = 1 := by decide +kernel
theorem r_Fo_init : q_r M_Fo_init = none := by decide +kernel
def M_Ta_init : q_MT := (6, 133)
theorem L_Ta_init : q_ln M_Ta_init = 2 := by decide +kernel
theorem r_Ta_init : q_r M_Ta_init = none := by decide +kernel
def M_Cm_init : q_MT := (1, 153)
theorem L_Cm_init : q_ln M_Cm_init = 2 := by decide +kernel
theorem r_Cm_init : q_r M_Cm_init = none := by decide +kernel
def M_Ou_init : q_MT := (4, 224)
theorem L_Ou_init : q_ln M_Ou_init = 3 := by decide +kernel
theorem r_Ou_init : q_r M_Ou_init = none := by decide +kernel
def M_Cu_init : q_MT := (2, 230)
theorem L_Cu_init : q_ln M_Cu_init = 2 := by decide +kernel
theorem r_Cu_init : q_r M_Cu_init = none := by decide +kernel
def M_Pa_init : q_MT := (5, 253)
theorem L_Pa_init : q_ln M_Pa_init = 2 := by decide +kernel
theorem r_Pa_init : q_r M_Pa_init = none := by decide +kernel
def M_FO_feed : q_MT := (7, 349)
theorem L_FO_feed : q_ln M_FO_feed = 6 := by decide +kernel
theorem r_FO_feed : q_r M_FO_feed = (some .int) := by decide +kernel
def M_By_makeRoom : q_MT := (0, 353)
theorem L_By_makeRoom : q_ln M_By_makeRoom = 2 := by decide +kernel
theorem r_By_makeRoom : q_r M_By_makeRoom = none := by decide +kernel
def M_Ma_max : q_MT := (10, 356)
theorem L_Ma_max : q_ln M_Ma_max = 2 := by decide +kernel
theorem r_Ma_max : q_r M_Ma_max = (some .int) := by decide +kernel
def M_Ma_min : q_MT := (10, 359)
theorem L_Ma_min : q_ln M_Ma_min = 2 := by decide +kernel
theorem r_Ma_min : q_r M_Ma_min = (some .int) := by decide +kernel
def M_Ar_copyOf : q_MT := (11, 362)
theorem L_Ar_copyOf : q_ln M_Ar_copyOf = 3 := by decide +kernel
theorem r_Ar_copyOf : q_r M_Ar_copyOf = (some (.array .byte)) := by decide +kernel
def M_By_addWord : q_MT := (0, 377)
theorem L_By_addWord : q_ln M_By_addWord = 2 := by decide +kernel
theorem r_By_addWord : q_r M_By_addWord = none := by decide +kernel
def M_FO_at : q_MT := (7, 381)
theorem L_FO_at : q_ln M_FO_at = 2 := by decide +kernel
theorem r_FO_at : q_r M_FO_at = (some .int) := by decide +kernel
def M_By_u8 : q_MT := (0, 385)
theorem L_By_u8 : q_ln M_By_u8 = 2 := by decide +kernel
theorem r_By_u8 : q_r M_By_u8 = (some .int) := by decide +kernel
def M_FO_load : q_MT := (7, 389)
theorem L_FO_load : q_ln M_FO_load = 4 := by decide +kernel
theorem r_FO_load : q_r M_FO_load = (some .int) := by decide +kernel
def M_Fo_takeFile : q_MT := (3, 393)
theorem L_Fo_takeFile : q_ln M_Fo_takeFile = 2 := by decide +kernel
theorem r_Fo_takeFile : q_r M_Fo_takeFile = none := by decide +kernel
def M_By_copy : q_MT := (0, 397)
theorem L_By_copy : q_ln M_By_copy = 2 := by decide +kernel
theorem r_By_copy : q_r M_By_copy = none := by decide +kernel
def M_Ta_lay : q_MT := (6, 403)
theorem L_Ta_lay : q_ln M_Ta_lay = 3 := by decide +kernel
theorem r_Ta_lay : q_r M_Ta_lay = none := by decide +kernel
def M_Fo_firstWrong : q_MT := (3, 407)
theorem L_Fo_firstWrong : q_ln M_Fo_firstWrong = 2 := by decide +kernel
theorem r_Fo_firstWrong : q_r M_Fo_firstWrong = (some .int) := by decide +kernel
def M_Fo_isFile : q_MT := (3, 411)
theorem L_Fo_isFile : q_ln M_Fo_isFile = 8 := by decide +kernel
theorem r_Fo_isFile : q_r M_Fo_isFile = (some .boolean) := by decide +kernel
def M_Fo_tables : q_MT := (3, 415)
theorem L_Fo_tables : q_ln M_Fo_tables = 1 := by decide +kernel
theorem r_Fo_tables : q_r M_Fo_tables = (some .int) := by decide +kernel
def M_Ta_u16 : q_MT := (6, 419)
theorem L_Ta_u16 : q_ln M_Ta_u16 = 2 := by decide +kernel
theorem r_Ta_u16 : q_r M_Ta_u16 = (some .int) := by decide +kernel
def M_Ta_u8 : q_MT := (6, 423)
theorem L_Ta_u8 : q_ln M_Ta_u8 = 3 := by decide +kernel
theorem r_Ta_u8 : q_r M_Ta_u8 = (some .int) := by decide +kernel
def M_Ta_u32 : q_MT := (6, 427)
theorem L_Ta_u32 : q_ln M_Ta_u32 = 2 := by decide +kernel
theorem r_Ta_u32 : q_r M_Ta_u32 = (some .long) := by decide +kernel
def M_Ta_holds : q_MT := (6, 433)
theorem L_Ta_holds : q_ln M_Ta_holds = 5 := by decide +kernel
theorem r_Ta_holds : q_r M_Ta_holds = (some .boolean) := by decide +kernel
def M_Fo_hasSums : q_MT := (3, 438)
theorem L_Fo_hasSums : q_ln M_Fo_hasSums = 4 := by decide +kernel
theorem r_Fo_hasSums : q_r M_Fo_hasSums = (some .boolean) := by decide +kernel
def M_Fo_layByEntry : q_MT := (3, 442)
theorem L_Fo_layByEntry : q_ln M_Fo_layByEntry = 3 := by decide +kernel
theorem r_Fo_layByEntry : q_r M_Fo_layByEntry = none := by decide +kernel
def M_Fo_sum : q_MT := (3, 446)
theorem L_Fo_sum : q_ln M_Fo_sum = 5 := by decide +kernel
theorem r_Fo_sum : q_r M_Fo_sum = (some .long) := by decide +kernel
def M_Fo_hasTables : q_MT := (3, 451)
theorem L_Fo_hasTables : q_ln M_Fo_hasTables = 1 := by decide +kernel
theorem r_Fo_hasTables : q_r M_Fo_hasTables = (some .boolean) := by decide +kernel
def M_Fo_finds : q_MT := (3, 456)
theorem L_Fo_finds : q_ln M_Fo_finds = 6 := by decide +kernel
theorem r_Fo_finds : q_r M_Fo_finds = (some .boolean) := by decide +kernel
def M_Fo_hasCounts : q_MT := (3, 466)
theorem L_Fo_hasCounts : q_ln M_Fo_hasCounts = 1 := by decide +kernel
theorem r_Fo_hasCounts : q_r M_Fo_hasCounts = (some .boolean) := by decide +kernel
def M_Fo_hasPlaces : q_MT := (3, 470)
theorem L_Fo_hasPlaces : q_ln M_Fo_hasPlaces = 6 := by decide +kernel
theorem r_Fo_hasPlaces : q_r M_Fo_hasPlaces = (some .boolean) := by decide +kernel
def M_Fo_dataPlace : q_MT := (3, 474)
theorem L_Fo_dataPlace : q_ln M_Fo_dataPlace = 2 := by decide +kernel
theorem r_Fo_dataPlace : q_r M_Fo_dataPlace = (some .long) := by decide +kernel
def M_Cm_isFound : q_MT := (1, 478)
theorem L_Cm_isFound : q_ln M_Cm_isFound = 3 := by decide +kernel
theorem r_Cm_isFound : q_r M_Cm_isFound = (some .boolean) := by decide +kernel
def M_Cm_firstEntry : q_MT := (1, 485)
theorem L_Cm_firstEntry : q_ln M_Cm_firstEntry = 5 := by decide +kernel
theorem r_Cm_firstEntry : q_r M_Cm_firstEntry = (some .int) := by decide +kernel
def M_Cm_hasGroups : q_MT := (1, 490)
theorem L_Cm_hasGroups : q_ln M_Cm_hasGroups = 11 := by decide +kernel
theorem r_Cm_hasGroups : q_r M_Cm_hasGroups = (some .boolean) := by decide +kernel
def M_Cm_hasSegments : q_MT := (1, 498)
theorem L_Cm_hasSegments : q_ln M_Cm_hasSegments = 5 := by decide +kernel
theorem r_Cm_hasSegments : q_r M_Cm_hasSegments = (some .boolean) := by decide +kernel
def M_Cm_lastOf : q_MT := (1, 502)
theorem L_Cm_lastOf : q_ln M_Cm_lastOf = 2 := by decide +kernel
theorem r_Cm_lastOf : q_r M_Cm_lastOf = (some .int) := by decide +kernel
def M_Cm_firstOf : q_MT := (1, 506)
theorem L_Cm_firstOf : q_ln M_Cm_firstOf = 2 := by decide +kernel
theorem r_Cm_firstOf : q_r M_Cm_firstOf = (some .int) := by decide +kernel
def M_Ou_readsAll : q_MT := (4, 511)
theorem L_Ou_readsAll : q_ln M_Ou_readsAll = 3 := by decide +kernel
theorem r_Ou_readsAll : q_r M_Ou_readsAll = (some .boolean) := by decide +kernel
def M_Ou_readGlyph : q_MT := (4, 515)
theorem L_Ou_readGlyph : q_ln M_Ou_readGlyph = 3 := by decide +kernel
theorem r_Ou_readGlyph : q_r M_Ou_readGlyph = (some .boolean) := by decide +kernel
def M_Ou_addsGlyph : q_MT := (4, 519)
theorem L_Ou_addsGlyph : q_ln M_Ou_addsGlyph = 7 := by decide +kernel
theorem r_Ou_addsGlyph : q_r M_Ou_addsGlyph = (some .boolean) := by decide +kernel
def M_Cu_begin : q_MT := (2, 524)
theorem L_Cu_begin : q_ln M_Cu_begin = 4 := by decide +kernel
theorem r_Cu_begin : q_r M_Cu_begin = none := by decide +kernel
def M_Cu_u16 : q_MT := (2, 529)
theorem L_Cu_u16 : q_ln M_Cu_u16 = 2 := by decide +kernel
theorem r_Cu_u16 : q_r M_Cu_u16 = (some .int) := by decide +kernel
def M_Cu_pass : q_MT := (2, 533)
theorem L_Cu_pass : q_ln M_Cu_pass = 2 := by decide +kernel
theorem r_Cu_pass : q_r M_Cu_pass = none := by decide +kernel
def M_Cu_follow : q_MT := (2, 537)
theorem L_Cu_follow : q_ln M_Cu_follow = 2 := by decide +kernel
theorem r_Cu_follow : q_r M_Cu_follow = none := by decide +kernel
def M_Ou_addsParts : q_MT := (4, 541)
theorem L_Ou_addsParts : q_ln M_Ou_addsParts = 10 := by decide +kernel
theorem r_Ou_addsParts : q_r M_Ou_addsParts = (some .boolean) := by decide +kernel
def M_Pa_isRead : q_MT := (5, 545)
theorem L_Pa_isRead : q_ln M_Pa_isRead = 1 := by decide +kernel
theorem r_Pa_isRead : q_r M_Pa_isRead = (some .boolean) := by decide +kernel
def M_Pa_number : q_MT := (5, 550)
theorem L_Pa_number : q_ln M_Pa_number = 2 := by decide +kernel
theorem r_Pa_number : q_r M_Pa_number = (some .int) := by decide +kernel
def M_Pa_has : q_MT := (5, 554)
theorem L_Pa_has : q_ln M_Pa_has = 2 := by decide +kernel
theorem r_Pa_has : q_r M_Pa_has = (some .boolean) := by decide +kernel
def M_Cu_u8 : q_MT := (2, 558)
theorem L_Cu_u8 : q_ln M_Cu_u8 = 2 := by decide +kernel
theorem r_Cu_u8 : q_r M_Cu_u8 = (some .int) := by decide +kernel
def M_Pa_readFactors : q_MT := (5, 562)
theorem L_Pa_readFactors : q_ln M_Pa_readFactors = 1 := by decide +kernel
theorem r_Pa_readFactors : q_r M_Pa_readFactors = none := by decide +kernel
def M_In_bitCount : q_MT := (12, 565)
theorem L_In_bitCount : q_ln M_In_bitCount = 1 := by decide +kernel
theorem r_In_bitCount : q_r M_In_bitCount = (some .int) := by decide +kernel
def M_Ou_isLaid : q_MT := (4, 572)
theorem L_Ou_isLaid : q_ln M_Ou_isLaid = 9 := by decide +kernel
theorem r_Ou_isLaid : q_r M_Ou_isLaid = (some .boolean) := by decide +kernel
def M_Pa_turnedX : q_MT := (5, 577)
theorem L_Pa_turnedX : q_ln M_Pa_turnedX = 3 := by decide +kernel
theorem r_Pa_turnedX : q_r M_Pa_turnedX = (some .int) := by decide +kernel
def M_Pa_turnedY : q_MT := (5, 581)
theorem L_Pa_turnedY : q_ln M_Pa_turnedY = 3 := by decide +kernel
theorem r_Pa_turnedY : q_r M_Pa_turnedY = (some .int) := by decide +kernel
def M_Ou_isCoordinate : q_MT := (4, 585)
theorem L_Ou_isCoordinate : q_ln M_Ou_isCoordinate = 2 := by decide +kernel
theorem r_Ou_isCoordinate : q_r M_Ou_isCoordinate = (some .boolean) := by decide +kernel
def M_Ou_addsSimple : q_MT := (4, 589)
theorem L_Ou_addsSimple : q_ln M_Ou_addsSimple = 3 := by decide +kernel
theorem r_Ou_addsSimple : q_r M_Ou_addsSimple = (some .boolean) := by decide +kernel
def M_Ou_addsContours : q_MT := (4, 593)
theorem L_Ou_addsContours : q_ln M_Ou_addsContours = 7 := by decide +kernel
theorem r_Ou_addsContours : q_r M_Ou_addsContours = (some .boolean) := by decide +kernel
def M_Ou_readsFlags : q_MT := (4, 597)
theorem L_Ou_readsFlags : q_ln M_Ou_readsFlags = 5 := by decide +kernel
theorem r_Ou_readsFlags : q_r M_Ou_readsFlags = (some .boolean) := by decide +kernel
def M_Ou_readsAxis : q_MT := (4, 602)
theorem L_Ou_readsAxis : q_ln M_Ou_readsAxis = 9 := by decide +kernel
theorem r_Ou_readsAxis : q_r M_Ou_readsAxis = (some .boolean) := by decide +kernel
def M_FO_put : q_MT := (7, 611)
theorem L_FO_put : q_ln M_FO_put = 4 := by decide +kernel
theorem r_FO_put : q_r M_FO_put = (some .int) := by decide +kernel
def M_By_change : q_MT := (0, 698)
theorem L_By_change : q_ln M_By_change = 3 := by decide +kernel
theorem r_By_change : q_r M_By_change = none := by decide +kernel
def M_FO_cut : q_MT := (7, 705)
theorem L_FO_cut : q_ln M_FO_cut = 3 := by decide +kernel
theorem r_FO_cut : q_r M_FO_cut = (some .int) := by decide +kernel
def M_FO_glyph : q_MT := (7, 714)
theorem L_FO_glyph : q_ln M_FO_glyph = 4 := by decide +kernel
theorem r_FO_glyph : q_r M_FO_glyph = (some .int) := by decide +kernel
def M_FO_needFont : q_MT := (7, 718)
theorem L_FO_needFont : q_ln M_FO_needFont = 1 := by decide +kernel
theorem r_FO_needFont : q_r M_FO_needFont = none := by decide +kernel
def M_Cm_glyphOf : q_MT := (1, 740)
theorem L_Cm_glyphOf : q_ln M_Cm_glyphOf = 2 := by decide +kernel
theorem r_Cm_glyphOf : q_r M_Cm_glyphOf = (some .long) := by decide +kernel
def M_Cm_glyphByGroups : q_MT := (1, 744)
theorem L_Cm_glyphByGroups : q_ln M_Cm_glyphByGroups = 6 := by decide +kernel
theorem r_Cm_glyphByGroups : q_r M_Cm_glyphByGroups = (some .long) := by decide +kernel
def M_Cm_glyphBySegments : q_MT := (1, 749)
theorem L_Cm_glyphBySegments : q_ln M_Cm_glyphBySegments = 3 := by decide +kernel
theorem r_Cm_glyphBySegments : q_r M_Cm_glyphBySegments = (some .int) := by decide +kernel
def M_Cm_glyphBySegment : q_MT := (1, 753)
theorem L_Cm_glyphBySegment : q_ln M_Cm_glyphBySegment = 7 := by decide +kernel
theorem r_Cm_glyphBySegment : q_r M_Cm_glyphBySegment = (some .int) := by decide +kernel
def M_FO_measure : q_MT := (7, 761)
theorem L_FO_measure : q_ln M_FO_measure = 3 := by decide +kernel
theorem r_FO_measure : q_r M_FO_measure = (some .int) := by decide +kernel
def M_FO_isGlyph : q_MT := (7, 765)
theorem L_FO_isGlyph : q_ln M_FO_isGlyph = 2 := by decide +kernel
theorem r_FO_isGlyph : q_r M_FO_isGlyph = (some .boolean) := by decide +kernel
def M_FO_show : q_MT := (7, 770)
theorem L_FO_show : q_ln M_FO_show = 2 := by decide +kernel
theorem r_FO_show : q_r M_FO_show = none := by decide +kernel
def M_Fo_widthOf : q_MT := (3, 775)
theorem L_Fo_widthOf : q_ln M_Fo_widthOf = 2 := by decide +kernel
theorem r_Fo_widthOf : q_r M_Fo_widthOf = (some .int) := by decide +kernel
def M_Fo_leftOf : q_MT := (3, 780)
theorem L_Fo_leftOf : q_ln M_Fo_leftOf = 2 := by decide +kernel
theorem r_Fo_leftOf : q_r M_Fo_leftOf = (some .int) := by decide +kernel
def M_Ta_s16 : q_MT := (6, 784)
theorem L_Ta_s16 : q_ln M_Ta_s16 = 2 := by decide +kernel
theorem r_Ta_s16 : q_r M_Ta_s16 = (some .int) := by decide +kernel
def M_Ou_least : q_MT := (4, 789)
theorem L_Ou_least : q_ln M_Ou_least = 4 := by decide +kernel
theorem r_Ou_least : q_r M_Ou_least = (some .int) := by decide +kernel
def M_Ou_greatest : q_MT := (4, 794)
theorem L_Ou_greatest : q_ln M_Ou_greatest = 4 := by decide +kernel
theorem r_Ou_greatest : q_r M_Ou_greatest = (some .int) := by decide +kernel
def M_FO_point : q_MT := (7, 802)
theorem L_FO_point : q_ln M_FO_point = 4 := by decide +kernel
theorem r_FO_point : q_r M_FO_point = (some .int) := by decide +kernel
def M_FO_font : q_MT := (7, 811)
theorem L_FO_font : q_ln M_FO_font = 2 := by decide +kernel
theorem r_FO_font : q_r M_FO_font = (some .int) := by decide +kernel
def M_Mo_init : q_MT := (8, 817)
theorem L_Mo_init : q_ln M_Mo_init = 1 := by decide +kernel
theorem r_Mo_init : q_r M_Mo_init = none := by decide +kernel
def M_Mo_thrown : q_MT := (8, 927)
theorem L_Mo_thrown : q_ln M_Mo_thrown = 1 := by decide +kernel
theorem r_Mo_thrown : q_r M_Mo_thrown = (some .int) := by decide +kernel
def M_Mo_feed : q_MT := (8, 931)
theorem L_Mo_feed : q_ln M_Mo_feed = 6 := by decide +kernel
theorem r_Mo_feed : q_r M_Mo_feed = (some .int) := by decide +kernel
def M_Mo_put4 : q_MT := (8, 935)
theorem L_Mo_put4 : q_ln M_Mo_put4 = 3 := by decide +kernel
theorem r_Mo_put4 : q_r M_Mo_put4 = none := by decide +kernel
def M_Mo_put : q_MT := (8, 939)
theorem L_Mo_put : q_ln M_Mo_put = 4 := by decide +kernel
theorem r_Mo_put : q_r M_Mo_put = (some .int) := by decide +kernel
def M_Mo_refused : q_MT := (8, 943)
theorem L_Mo_refused : q_ln M_Mo_refused = 2 := by decide +kernel
theorem r_Mo_refused : q_r M_Mo_refused = (some .boolean) := by decide +kernel
def M_Mo_at : q_MT := (8, 947)
theorem L_Mo_at : q_ln M_Mo_at = 2 := by decide +kernel
theorem r_Mo_at : q_r M_Mo_at = (some .int) := by decide +kernel
def M_Mo_cut : q_MT := (8, 951)
theorem L_Mo_cut : q_ln M_Mo_cut = 3 := by decide +kernel
theorem r_Mo_cut : q_r M_Mo_cut = (some .int) := by decide +kernel
def M_Mo_load : q_MT := (8, 955)
theorem L_Mo_load : q_ln M_Mo_load = 3 := by decide +kernel
theorem r_Mo_load : q_r M_Mo_load = (some .int) := by decide +kernel
def M_Mo_checkFile : q_MT := (8, 959)
theorem L_Mo_checkFile : q_ln M_Mo_checkFile = 9 := by decide +kernel
theorem r_Mo_checkFile : q_r M_Mo_checkFile = none := by decide +kernel
def M_Mo_u32 : q_MT := (8, 963)
theorem L_Mo_u32 : q_ln M_Mo_u32 = 6 := by decide +kernel
theorem r_Mo_u32 : q_r M_Mo_u32 = (some .long) := by decide +kernel
def M_Mo_u16 : q_MT := (8, 968)
theorem L_Mo_u16 : q_ln M_Mo_u16 = 6 := by decide +kernel
theorem r_Mo_u16 : q_r M_Mo_u16 = (some .int) := by decide +kernel
def M_Mo_u8 : q_MT := (8, 972)
theorem L_Mo_u8 : q_ln M_Mo_u8 = 8 := by decide +kernel
theorem r_Mo_u8 : q_r M_Mo_u8 = (some .int) := by decide +kernel
def M_Mo_need : q_MT := (8, 976)
theorem L_Mo_need : q_ln M_Mo_need = 2 := by decide +kernel
theorem r_Mo_need : q_r M_Mo_need = none := by decide +kernel
def M_Mo_tables : q_MT := (8, 981)
theorem L_Mo_tables : q_ln M_Mo_tables = 1 := by decide +kernel
theorem r_Mo_tables : q_r M_Mo_tables = (some .int) := by decide +kernel
def M_Mo_checkSums : q_MT := (8, 990)
theorem L_Mo_checkSums : q_ln M_Mo_checkSums = 4 := by decide +kernel
theorem r_Mo_checkSums : q_r M_Mo_checkSums = none := by decide +kernel
def M_Mo_sumOf : q_MT := (8, 994)
theorem L_Mo_sumOf : q_ln M_Mo_sumOf = 11 := by decide +kernel
theorem r_Mo_sumOf : q_r M_Mo_sumOf = (some .long) := by decide +kernel
def M_Mo_findTables : q_MT := (8, 1000)
theorem L_Mo_findTables : q_ln M_Mo_findTables = 6 := by decide +kernel
theorem r_Mo_findTables : q_r M_Mo_findTables = none := by decide +kernel
def M_Mo_checkForms : q_MT := (8, 1004)
theorem L_Mo_checkForms : q_ln M_Mo_checkForms = 9 := by decide +kernel
theorem r_Mo_checkForms : q_r M_Mo_checkForms = none := by decide +kernel
def M_Mo_t16 : q_MT := (8, 1009)
theorem L_Mo_t16 : q_ln M_Mo_t16 = 4 := by decide +kernel
theorem r_Mo_t16 : q_r M_Mo_t16 = (some .int) := by decide +kernel
def M_Mo_tableAt : q_MT := (8, 1013)
theorem L_Mo_tableAt : q_ln M_Mo_tableAt = 2 := by decide +kernel
theorem r_Mo_tableAt : q_r M_Mo_tableAt = (some .int) := by decide +kernel
def M_Mo_tableLength : q_MT := (8, 1017)
theorem L_Mo_tableLength : q_ln M_Mo_tableLength = 2 := by decide +kernel
theorem r_Mo_tableLength : q_r M_Mo_tableLength = (some .int) := by decide +kernel
def M_Mo_glyphCount : q_MT := (8, 1022)
theorem L_Mo_glyphCount : q_ln M_Mo_glyphCount = 1 := by decide +kernel
theorem r_Mo_glyphCount : q_r M_Mo_glyphCount = (some .int) := by decide +kernel
def M_Mo_longCount : q_MT := (8, 1026)
theorem L_Mo_longCount : q_ln M_Mo_longCount = 1 := by decide +kernel
theorem r_Mo_longCount : q_r M_Mo_longCount = (some .int) := by decide +kernel
def M_Mo_dataAt : q_MT := (8, 1031)
theorem L_Mo_dataAt : q_ln M_Mo_dataAt = 2 := by decide +kernel
theorem r_Mo_dataAt : q_r M_Mo_dataAt = (some .long) := by decide +kernel
def M_Mo_t32 : q_MT := (8, 1035)
theorem L_Mo_t32 : q_ln M_Mo_t32 = 4 := by decide +kernel
theorem r_Mo_t32 : q_r M_Mo_t32 = (some .long) := by decide +kernel
def M_Mo_checkMap : q_MT := (8, 1039)
theorem L_Mo_checkMap : q_ln M_Mo_checkMap = 3 := by decide +kernel
theorem r_Mo_checkMap : q_r M_Mo_checkMap = none := by decide +kernel
def M_Mo_hasMap : q_MT := (8, 1043)
theorem L_Mo_hasMap : q_ln M_Mo_hasMap = 2 := by decide +kernel
theorem r_Mo_hasMap : q_r M_Mo_hasMap = (some .boolean) := by decide +kernel
def M_Mo_mapAt : q_MT := (8, 1047)
theorem L_Mo_mapAt : q_ln M_Mo_mapAt = 9 := by decide +kernel
theorem r_Mo_mapAt : q_r M_Mo_mapAt = (some .long) := by decide +kernel
def M_Mo_checkGroups : q_MT := (8, 1051)
theorem L_Mo_checkGroups : q_ln M_Mo_checkGroups = 15 := by decide +kernel
theorem r_Mo_checkGroups : q_r M_Mo_checkGroups = none := by decide +kernel
def M_Mo_checkSegments : q_MT := (8, 1056)
theorem L_Mo_checkSegments : q_ln M_Mo_checkSegments = 8 := by decide +kernel
theorem r_Mo_checkSegments : q_r M_Mo_checkSegments = none := by decide +kernel
def M_Mo_checkGlyphs : q_MT := (8, 1064)
theorem L_Mo_checkGlyphs : q_ln M_Mo_checkGlyphs = 3 := by decide +kernel
theorem r_Mo_checkGlyphs : q_r M_Mo_checkGlyphs = none := by decide +kernel
def M_Mo_readGlyph : q_MT := (8, 1068)
theorem L_Mo_readGlyph : q_ln M_Mo_readGlyph = 4 := by decide +kernel
theorem r_Mo_readGlyph : q_r M_Mo_readGlyph = none := by decide +kernel
def M_Mo_begin : q_MT := (8, 1072)
theorem L_Mo_begin : q_ln M_Mo_begin = 8 := by decide +kernel
theorem r_Mo_begin : q_r M_Mo_begin = none := by decide +kernel
def M_Mo_s16 : q_MT := (8, 1076)
theorem L_Mo_s16 : q_ln M_Mo_s16 = 7 := by decide +kernel
theorem r_Mo_s16 : q_r M_Mo_s16 = (some .int) := by decide +kernel
def M_Mo_readSimple : q_MT := (8, 1081)
theorem L_Mo_readSimple : q_ln M_Mo_readSimple = 10 := by decide +kernel
theorem r_Mo_readSimple : q_r M_Mo_readSimple = none := by decide +kernel
def M_Mo_readFlags : q_MT := (8, 1086)
theorem L_Mo_readFlags : q_ln M_Mo_readFlags = 14 := by decide +kernel
theorem r_Mo_readFlags : q_r M_Mo_readFlags = (some .long) := by decide +kernel
def M_Mo_readSteps : q_MT := (8, 1090)
theorem L_Mo_readSteps : q_ln M_Mo_readSteps = 15 := by decide +kernel
theorem r_Mo_readSteps : q_r M_Mo_readSteps = (some .long) := by decide +kernel
def M_Mo_isCoordinate : q_MT := (8, 1093)
theorem L_Mo_isCoordinate : q_ln M_Mo_isCoordinate = 2 := by decide +kernel
theorem r_Mo_isCoordinate : q_r M_Mo_isCoordinate = (some .boolean) := by decide +kernel
def M_Mo_readPart : q_MT := (8, 1099)
theorem L_Mo_readPart : q_ln M_Mo_readPart = 12 := by decide +kernel
theorem r_Mo_readPart : q_r M_Mo_readPart = (some .int) := by decide +kernel
def M_Mo_number : q_MT := (8, 1103)
theorem L_Mo_number : q_ln M_Mo_number = 8 := by decide +kernel
theorem r_Mo_number : q_r M_Mo_number = (some .int) := by decide +kernel
def M_Mo_f16 : q_MT := (8, 1109)
theorem L_Mo_f16 : q_ln M_Mo_f16 = 4 := by decide +kernel
theorem r_Mo_f16 : q_r M_Mo_f16 = (some .int) := by decide +kernel
def M_Mo_join : q_MT := (8, 1113)
theorem L_Mo_join : q_ln M_Mo_join = 16 := by decide +kernel
theorem r_Mo_join : q_r M_Mo_join = none := by decide +kernel
def M_Mo_turned : q_MT := (8, 1116)
theorem L_Mo_turned : q_ln M_Mo_turned = 6 := by decide +kernel
theorem r_Mo_turned : q_r M_Mo_turned = (some .long) := by decide +kernel
def M_Mo_glyph : q_MT := (8, 1121)
theorem L_Mo_glyph : q_ln M_Mo_glyph = 2 := by decide +kernel
theorem r_Mo_glyph : q_r M_Mo_glyph = (some .int) := by decide +kernel
def M_Mo_groupGlyph : q_MT := (8, 1126)
theorem L_Mo_groupGlyph : q_ln M_Mo_groupGlyph = 15 := by decide +kernel
theorem r_Mo_groupGlyph : q_r M_Mo_groupGlyph = (some .int) := by decide +kernel
def M_Mo_segmentGlyph : q_MT := (8, 1130)
theorem L_Mo_segmentGlyph : q_ln M_Mo_segmentGlyph = 14 := by decide +kernel
theorem r_Mo_segmentGlyph : q_r M_Mo_segmentGlyph = (some .int) := by decide +kernel
def M_Mo_measure : q_MT := (8, 1134)
theorem L_Mo_measure : q_ln M_Mo_measure = 4 := by decide +kernel
theorem r_Mo_measure : q_r M_Mo_measure = (some .int) := by decide +kernel
def M_Mo_isGlyph : q_MT := (8, 1138)
theorem L_Mo_isGlyph : q_ln M_Mo_isGlyph = 2 := by decide +kernel
theorem r_Mo_isGlyph : q_r M_Mo_isGlyph = (some .boolean) := by decide +kernel
def M_Mo_lends : q_MT := (8, 1142)
theorem L_Mo_lends : q_ln M_Mo_lends = 3 := by decide +kernel
theorem r_Mo_lends : q_r M_Mo_lends = (some .int) := by decide +kernel
def M_Mo_width : q_MT := (8, 1146)
theorem L_Mo_width : q_ln M_Mo_width = 3 := by decide +kernel
theorem r_Mo_width : q_r M_Mo_width = (some .int) := by decide +kernel
def M_Mo_left : q_MT := (8, 1150)
theorem L_Mo_left : q_ln M_Mo_left = 3 := by decide +kernel
theorem r_Mo_left : q_r M_Mo_left = (some .int) := by decide +kernel
def M_Mo_bound : q_MT := (8, 1154)
theorem L_Mo_bound : q_ln M_Mo_bound = 6 := by decide +kernel
theorem r_Mo_bound : q_r M_Mo_bound = (some .int) := by decide +kernel
def M_Mo_point : q_MT := (8, 1158)
theorem L_Mo_point : q_ln M_Mo_point = 5 := by decide +kernel
theorem r_Mo_point : q_r M_Mo_point = (some .int) := by decide +kernel
def M_Mo_font : q_MT := (8, 1162)
theorem L_Mo_font : q_ln M_Mo_font = 2 := by decide +kernel
theorem r_Mo_font : q_r M_Mo_font = (some .int) := by decide +kernel
def q_flL : List (Nat × Nat × Nat × Nat × Bool × Nat) := [(0, 9, 0, 0, false, 107), (2, 41, 0, 0, true, 108), (6, 25, 0, 0, true, 109), (0, 15, 0, 1, false, 110), (7, 43, 0, 1, true, 111), (3, 63, 0, 1, true, 112), (2, 30, 0, 1, true, 113), (6, 20, 0, 1, true, 114), (6, 7, 6, 0, false, 135), (2, 24, 6, 0, true, 136), (6, 13, 6, 1, false, 137), (2, 27, 6, 1, true, 138), (6, 17, 6, 2, false, 139), (1, 46, 6, 2, true, 140), (3, 120, 6, 2, true, 141), (1, 9, 1, 0, false, 155), (1, 15, 1, 1, false, 156), (7, 158, 1, 1, true, 157), (1, 19, 1, 2, false, 158), (1, 23, 1, 3, false, 159), (3, 12, 3, 0, false, 169), (3, 23, 3, 1, false, 170), (3, 27, 3, 2, false, 171), (3, 30, 3, 3, false, 172), (3, 33, 3, 4, false, 173), (4, 70, 3, 4, true, 174), (3, 36, 3, 5, false, 175), (3, 39, 3, 6, false, 176), (3, 42, 3, 7, false, 177), (3, 45, 3, 8, false, 178), (3, 48, 3, 9, false, 179), (3, 56, 3, 10, false, 180), (7, 95, 3, 10, true, 181), (7, 155, 3, 11, true, 182), (3, 136, 3, 11, false, 183), (4, 40, 3, 12, true, 184), (7, 86, 3, 12, true, 185), (3, 143, 3, 12, false, 186), (3, 146, 3, 13, false, 187), (3, 139, 3, 14, false, 188), (2, 7, 2, 0, false, 232), (2, 13, 2, 1, false, 233), (2, 17, 2, 2, false, 234), (2, 20, 2, 3, false, 235), (5, 43, 2, 3, true, 236), (4, 86, 2, 3, true, 237), (5, 14, 5, 0, false, 257), (4, 90, 5, 0, true, 258), (5, 20, 5, 1, false, 259), (5, 28, 5, 2, false, 260), (4, 122, 5, 2, true, 261), (5, 34, 5, 3, false, 262), (4, 132, 5, 3, true, 263), (5, 37, 5, 4, false, 264), (4, 135, 5, 4, true, 265), (5, 60, 5, 5, false, 266), (5, 63, 5, 6, false, 267), (5, 66, 5, 7, false, 268), (5, 69, 5, 8, false, 269), (4, 9, 4, 0, false, 289), (7, 129, 4, 0, true, 290), (4, 15, 4, 1, false, 291), (7, 137, 4, 1, true, 292), (4, 18, 4, 2, false, 293), (7, 147, 4, 2, true, 294), (4, 21, 4, 3, false, 295), (7, 150, 4, 3, true, 296), (4, 29, 4, 4, false, 297), (4, 35, 4, 5, false, 298), (4, 50, 4, 6, false, 299), (7, 123, 4, 6, true, 300), (4, 53, 4, 7, false, 301), (7, 126, 4, 7, true, 302), (4, 56, 4, 8, false, 303), (4, 63, 4, 9, false, 304), (7, 114, 4, 9, true, 305), (7, 12, 7, 0, false, 327), (7, 31, 7, 1, false, 328), (7, 19, 7, 2, false, 329), (7, 23, 7, 3, false, 330), (7, 35, 7, 4, false, 331), (7, 39, 7, 5, false, 332), (8, 90, 8, 0, false, 826), (8, 94, 8, 1, false, 827), (8, 7, 8, 2, false, 828), (8, 13, 8, 3, false, 829), (8, 230, 8, 4, false, 830), (8, 233, 8, 5, false, 831), (8, 113, 8, 6, false, 832), (8, 105, 8, 7, false, 833), (8, 16, 8, 8, false, 834), (8, 19, 8, 9, false, 835), (8, 22, 8, 10, false, 836), (8, 25, 8, 11, false, 837), (8, 28, 8, 12, false, 838), (8, 31, 8, 13, false, 839), (8, 35, 8, 14, false, 840), (8, 38, 8, 15, false, 841), (8, 41, 8, 16, false, 842), (8, 44, 8, 17, false, 843), (8, 47, 8, 18, false, 844), (8, 50, 8, 19, false, 845), (8, 53, 8, 20, false, 846), (8, 56, 8, 21, false, 847), (8, 59, 8, 22, false, 848), (8, 62, 8, 23, false, 849), (8, 65, 8, 24, false, 850), (8, 68, 8, 25, false, 851), (8, 71, 8, 26, false, 852), (8, 74, 8, 27, false, 853), (8, 77, 8, 28, false, 854), (8, 80, 8, 29, false, 855), (8, 247, 8, 30, false, 856), (8, 250, 8, 31, false, 857)]
def q_hasN (i : Nat) (w : Cond) : Bool := match lw_tbl[i]? with | some v => decide (v = w) | none => false
def q_isN : Cond → Bool
  | .fieldLinkNest _ _ _ _ _ _ => true
  | _ => false
def q_nst : List Cond := lw_tbl.filter q_isN
theorem q_hasN_in {i : Nat} {w : Cond} (hN : q_isN w = true) (h : q_hasN i w = true) : w ∈ q_nst := by
  unfold q_hasN at h
  cases hc : lw_tbl[i]? with
  | none => rw [hc] at h; cases h
  | some v =>
    rw [hc] at h
    have e : v = w := of_decide_eq_true h
    subst e
    exact List.mem_filter.mpr ⟨List.mem_of_getElem? hc, hN⟩
def q_okF (x : Nat × Nat × Nat × Nat × Bool × Nat) : Bool := match q_ow[x.1]?, q_cl[x.2.2.1]? with
  | some o, some (C, T, N) => decide (x.2.2.2.1 < N) && (if x.2.2.2.2.1 then q_hasN x.2.2.2.2.2 (.fieldLinkNest o x.2.1 C (T x.2.2.2.1).2.1 (T x.2.2.2.1).2.2.1 "FontOutlines") else q_has x.2.2.2.2.2 (.fieldLink o x.2.1 C (T x.2.2.2.1).2.1 (T x.2.2.2.1).2.2.1))
  | _, _ => false
theorem q_flL_ok : q_flL.all q_okF = true := by decide +kernel
def q_fl (w j : Nat) : Option (Nat × Nat × Bool) := (q_flL.find? (fun x => x.1 == w && x.2.1 == j)).map (fun x => (x.2.2.1, x.2.2.2.1, x.2.2.2.2.1))
theorem f_0_9 : q_fl 0 9 = some (0, 0, false) := rfl
theorem f_2_41 : q_fl 2 41 = some (0, 0, true) := rfl
theorem f_6_25 : q_fl 6 25 = some (0, 0, true) := rfl
theorem f_0_15 : q_fl 0 15 = some (0, 1, false) := rfl
theorem f_7_43 : q_fl 7 43 = some (0, 1, true) := rfl
theorem f_3_63 : q_fl 3 63 = some (0, 1, true) := rfl
theorem f_2_30 : q_fl 2 30 = some (0, 1, true) := rfl
theorem f_6_20 : q_fl 6 20 = some (0, 1, true) := rfl
theorem f_6_7 : q_fl 6 7 = some (6, 0, false) := rfl
theorem f_2_24 : q_fl 2 24 = some (6, 0, true) := rfl
theorem f_6_13 : q_fl 6 13 = some (6, 1, false) := rfl
theorem f_2_27 : q_fl 2 27 = some (6, 1, true) := rfl
theorem f_6_17 : q_fl 6 17 = some (6, 2, false) := rfl
theorem f_1_46 : q_fl 1 46 = some (6, 2, true) := rfl
theorem f_3_120 : q_fl 3 120 = some (6, 2, true) := rfl
theorem f_1_9 : q_fl 1 9 = some (1, 0, false) := rfl
theorem f_1_15 : q_fl 1 15 = some (1, 1, false) := rfl
theorem f_7_158 : q_fl 7 158 = some (1, 1, true) := rfl
theorem f_1_19 : q_fl 1 19 = some (1, 2, false) := rfl
theorem f_1_23 : q_fl 1 23 = some (1, 3, false) := rfl
theorem f_3_12 : q_fl 3 12 = some (3, 0, false) := rfl
theorem f_3_23 : q_fl 3 23 = some (3, 1, false) := rfl
theorem f_3_27 : q_fl 3 27 = some (3, 2, false) := rfl
theorem f_3_30 : q_fl 3 30 = some (3, 3, false) := rfl
theorem f_3_33 : q_fl 3 33 = some (3, 4, false) := rfl
theorem f_4_70 : q_fl 4 70 = some (3, 4, true) := rfl
theorem f_3_36 : q_fl 3 36 = some (3, 5, false) := rfl
theorem f_3_39 : q_fl 3 39 = some (3, 6, false) := rfl
theorem f_3_42 : q_fl 3 42 = some (3, 7, false) := rfl
theorem f_3_45 : q_fl 3 45 = some (3, 8, false) := rfl
theorem f_3_48 : q_fl 3 48 = some (3, 9, false) := rfl
theorem f_3_56 : q_fl 3 56 = some (3, 10, false) := rfl
theorem f_7_95 : q_fl 7 95 = some (3, 10, true) := rfl
theorem f_7_155 : q_fl 7 155 = some (3, 11, true) := rfl
theorem f_3_136 : q_fl 3 136 = some (3, 11, false) := rfl
theorem f_4_40 : q_fl 4 40 = some (3, 12, true) := rfl
theorem f_7_86 : q_fl 7 86 = some (3, 12, true) := rfl
theorem f_3_143 : q_fl 3 143 = some (3, 12, false) := rfl
theorem f_3_146 : q_fl 3 146 = some (3, 13, false) := rfl
theorem f_3_139 : q_fl 3 139 = some (3, 14, false) := rfl
theorem f_2_7 : q_fl 2 7 = some (2, 0, false) := rfl
theorem f_2_13 : q_fl 2 13 = some (2, 1, false) := rfl
theorem f_2_17 : q_fl 2 17 = some (2, 2, false) := rfl
theorem f_2_20 : q_fl 2 20 = some (2, 3, false) := rfl
theorem f_5_43 : q_fl 5 43 = some (2, 3, true) := rfl
theorem f_4_86 : q_fl 4 86 = some (2, 3, true) := rfl
theorem f_5_14 : q_fl 5 14 = some (5, 0, false) := rfl
theorem f_4_90 : q_fl 4 90 = some (5, 0, true) := rfl
theorem f_5_20 : q_fl 5 20 = some (5, 1, false) := rfl
theorem f_5_28 : q_fl 5 28 = some (5, 2, false) := rfl
theorem f_4_122 : q_fl 4 122 = some (5, 2, true) := rfl
theorem f_5_34 : q_fl 5 34 = some (5, 3, false) := rfl
theorem f_4_132 : q_fl 4 132 = some (5, 3, true) := rfl
theorem f_5_37 : q_fl 5 37 = some (5, 4, false) := rfl
theorem f_4_135 : q_fl 4 135 = some (5, 4, true) := rfl
theorem f_5_60 : q_fl 5 60 = some (5, 5, false) := rfl
theorem f_5_63 : q_fl 5 63 = some (5, 6, false) := rfl
theorem f_5_66 : q_fl 5 66 = some (5, 7, false) := rfl
theorem f_5_69 : q_fl 5 69 = some (5, 8, false) := rfl
theorem f_4_9 : q_fl 4 9 = some (4, 0, false) := rfl
theorem f_7_129 : q_fl 7 129 = some (4, 0, true) := rfl
theorem f_4_15 : q_fl 4 15 = some (4, 1, false) := rfl
theorem f_7_137 : q_fl 7 137 = some (4, 1, true) := rfl
theorem f_4_18 : q_fl 4 18 = some (4, 2, false) := rfl
theorem f_7_147 : q_fl 7 147 = some (4, 2, true) := rfl
theorem f_4_21 : q_fl 4 21 = some (4, 3, false) := rfl
theorem f_7_150 : q_fl 7 150 = some (4, 3, true) := rfl
theorem f_4_29 : q_fl 4 29 = some (4, 4, false) := rfl
theorem f_4_35 : q_fl 4 35 = some (4, 5, false) := rfl
theorem f_4_50 : q_fl 4 50 = some (4, 6, false) := rfl
theorem f_7_123 : q_fl 7 123 = some (4, 6, true) := rfl
theorem f_4_53 : q_fl 4 53 = some (4, 7, false) := rfl
theorem f_7_126 : q_fl 7 126 = some (4, 7, true) := rfl
theorem f_4_56 : q_fl 4 56 = some (4, 8, false) := rfl
theorem f_4_63 : q_fl 4 63 = some (4, 9, false) := rfl
theorem f_7_114 : q_fl 7 114 = some (4, 9, true) := rfl
theorem f_7_12 : q_fl 7 12 = some (7, 0, false) := rfl
theorem f_7_31 : q_fl 7 31 = some (7, 1, false) := rfl
theorem f_7_19 : q_fl 7 19 = some (7, 2, false) := rfl
theorem f_7_23 : q_fl 7 23 = some (7, 3, false) := rfl
theorem f_7_35 : q_fl 7 35 = some (7, 4, false) := rfl
theorem f_7_39 : q_fl 7 39 = some (7, 5, false) := rfl
theorem f_8_90 : q_fl 8 90 = some (8, 0, false) := rfl
theorem f_8_94 : q_fl 8 94 = some (8, 1, false) := rfl
theorem f_8_7 : q_fl 8 7 = some (8, 2, false) := rfl
theorem f_8_13 : q_fl 8 13 = some (8, 3, false) := rfl
theorem f_8_230 : q_fl 8 230 = some (8, 4, false) := rfl
theorem f_8_233 : q_fl 8 233 = some (8, 5, false) := rfl
theorem f_8_113 : q_fl 8 113 = some (8, 6, false) := rfl
theorem f_8_105 : q_fl 8 105 = some (8, 7, false) := rfl
theorem f_8_16 : q_fl 8 16 = some (8, 8, false) := rfl
theorem f_8_19 : q_fl 8 19 = some (8, 9, false) := rfl
theorem f_8_22 : q_fl 8 22 = some (8, 10, false) := rfl
theorem f_8_25 : q_fl 8 25 = some (8, 11, false) := rfl
theorem f_8_28 : q_fl 8 28 = some (8, 12, false) := rfl
theorem f_8_31 : q_fl 8 31 = some (8, 13, false) := rfl
theorem f_8_35 : q_fl 8 35 = some (8, 14, false) := rfl
theorem f_8_38 : q_fl 8 38 = some (8, 15, false) := rfl
theorem f_8_41 : q_fl 8 41 = some (8, 16, false) := rfl
theorem f_8_44 : q_fl 8 44 = some (8, 17, false) := rfl
theorem f_8_47 : q_fl 8 47 = some (8, 18, false) := rfl
theorem f_8_50 : q_fl 8 50 = some (8, 19, false) := rfl
theorem f_8_53 : q_fl 8 53 = some (8, 20, false) := rfl
theorem f_8_56 : q_fl 8 56 = some (8, 21, false) := rfl
theorem f_8_59 : q_fl 8 59 = some (8, 22, false) := rfl
theorem f_8_62 : q_fl 8 62 = some (8, 23, false) := rfl
theorem f_8_65 : q_fl 8 65 = some (8, 24, false) := rfl
theorem f_8_68 : q_fl 8 68 = some (8, 25, false) := rfl
theorem f_8_71 : q_fl 8 71 = some (8, 26, false) := rfl
theorem f_8_74 : q_fl 8 74 = some (8, 27, false) := rfl
theorem f_8_77 : q_fl 8 77 = some (8, 28, false) := rfl
theorem f_8_80 : q_fl 8 80 = some (8, 29, false) := rfl
theorem f_8_247 : q_fl 8 247 = some (8, 30, false) := rfl
theorem f_8_250 : q_fl 8 250 = some (8, 31, false) := rfl
def q_kiL : List (Nat × Nat × Int32 × Nat) := [(3, 125, 1668112752, 452), (3, 130, 1735162214, 457), (3, 131, 1751474532, 458), (3, 132, 1751672161, 459), (3, 133, 1752003704, 460), (3, 134, 1819239265, 461), (3, 135, 1835104368, 462), (1, 70, 65535, 507), (12, 265, 1431655765, 566), (12, 266, 858993459, 567), (12, 267, 252645135, 568), (7, 92, 1114111, 735), (8, 83, 1668112752, 819), (8, 84, 1735162214, 820), (8, 85, 1751474532, 821), (8, 86, 1751672161, 822), (8, 87, 1752003704, 823), (8, 88, 1819239265, 824), (8, 89, 1835104368, 825), (8, 211, 65535, 1060), (8, 123, 65536, 1077), (8, 284, 32768, 1104), (8, 236, 1114111, 1122)]
def q_klL : List (Nat × Nat × Int64 × Nat) := [(3, 102, 65536, 428), (3, 104, 12, 429), (3, 110, (-1), 434), (3, 123, 4294967295, 447), (1, 32, 4, 480), (1, 56, 16, 491), (1, 58, 12, 492), (1, 60, (-1), 493), (1, 62, 1114111, 494), (1, 77, 4294967295, 745), (1, 82, 2, 754), (8, 124, 65536, 964), (8, 126, 2, 977), (8, 139, 4, 982), (8, 145, (-1), 983), (8, 147, 12, 984), (8, 149, 16, 985), (8, 151, 8, 986), (8, 153, 24, 995), (8, 155, 4294967295, 996), (8, 173, 18, 1005), (8, 167, 50, 1018), (8, 165, 34, 1027), (8, 203, 1114111, 1052), (8, 205, 6, 1057), (8, 207, 14, 1058), (8, 209, 3, 1059), (8, 270, 10, 1082), (8, 243, (-16384), 1094), (8, 245, 16383, 1095), (8, 289, 5, 1105), (8, 294, 16384, 1117)]
theorem q_kiL_ok : q_kiL.all (fun x => match q_ow[x.1]? with | some o => q_has x.2.2.2 (.constant o x.2.1 x.2.2.1) | none => false) = true := by decide +kernel
theorem q_klL_ok : q_klL.all (fun x => match q_ow[x.1]? with | some o => q_has x.2.2.2 (.constantLong o x.2.1 x.2.2.1) | none => false) = true := by decide +kernel
def q_ki (w j : Nat) : Option Int32 := (q_kiL.find? (fun x => x.1 == w && x.2.1 == j)).map (fun x => x.2.2.1)
def q_kl (w j : Nat) : Option Int64 := (q_klL.find? (fun x => x.1 == w && x.2.1 == j)).map (fun x => x.2.2.1)
theorem ki_3_125 : q_ki 3 125 = some 1668112752 := rfl
theorem ki_3_130 : q_ki 3 130 = some 1735162214 := rfl
theorem ki_3_131 : q_ki 3 131 = some 1751474532 := rfl
theorem ki_3_132 : q_ki 3 132 = some 1751672161 := rfl
theorem ki_3_133 : q_ki 3 133 = some 1752003704 := rfl
theorem ki_3_134 : q_ki 3 134 = some 1819239265 := rfl
theorem ki_3_135 : q_ki 3 135 = some 1835104368 := rfl
theorem ki_1_70 : q_ki 1 70 = some 65535 := rfl
theorem ki_12_265 : q_ki 12 265 = some 1431655765 := rfl
theorem ki_12_266 : q_ki 12 266 = some 858993459 := rfl
theorem ki_12_267 : q_ki 12 267 = some 252645135 := rfl
theorem ki_7_92 : q_ki 7 92 = some 1114111 := rfl
theorem ki_8_83 : q_ki 8 83 = some 1668112752 := rfl
theorem ki_8_84 : q_ki 8 84 = some 1735162214 := rfl
theorem ki_8_85 : q_ki 8 85 = some 1751474532 := rfl
theorem ki_8_86 : q_ki 8 86 = some 1751672161 := rfl
theorem ki_8_87 : q_ki 8 87 = some 1752003704 := rfl
theorem ki_8_88 : q_ki 8 88 = some 1819239265 := rfl
theorem ki_8_89 : q_ki 8 89 = some 1835104368 := rfl
theorem ki_8_211 : q_ki 8 211 = some 65535 := rfl
theorem ki_8_123 : q_ki 8 123 = some 65536 := rfl
theorem ki_8_284 : q_ki 8 284 = some 32768 := rfl
theorem ki_8_236 : q_ki 8 236 = some 1114111 := rfl
theorem kl_3_102 : q_kl 3 102 = some 65536 := rfl
theorem kl_3_104 : q_kl 3 104 = some 12 := rfl
theorem kl_3_110 : q_kl 3 110 = some (-1) := rfl
theorem kl_3_123 : q_kl 3 123 = some 4294967295 := rfl
theorem kl_1_32 : q_kl 1 32 = some 4 := rfl
theorem kl_1_56 : q_kl 1 56 = some 16 := rfl
theorem kl_1_58 : q_kl 1 58 = some 12 := rfl
theorem kl_1_60 : q_kl 1 60 = some (-1) := rfl
theorem kl_1_62 : q_kl 1 62 = some 1114111 := rfl
theorem kl_1_77 : q_kl 1 77 = some 4294967295 := rfl
theorem kl_1_82 : q_kl 1 82 = some 2 := rfl
theorem kl_8_124 : q_kl 8 124 = some 65536 := rfl
theorem kl_8_126 : q_kl 8 126 = some 2 := rfl
theorem kl_8_139 : q_kl 8 139 = some 4 := rfl
theorem kl_8_145 : q_kl 8 145 = some (-1) := rfl
theorem kl_8_147 : q_kl 8 147 = some 12 := rfl
theorem kl_8_149 : q_kl 8 149 = some 16 := rfl
theorem kl_8_151 : q_kl 8 151 = some 8 := rfl
theorem kl_8_153 : q_kl 8 153 = some 24 := rfl
theorem kl_8_155 : q_kl 8 155 = some 4294967295 := rfl
theorem kl_8_173 : q_kl 8 173 = some 18 := rfl
theorem kl_8_167 : q_kl 8 167 = some 50 := rfl
theorem kl_8_165 : q_kl 8 165 = some 34 := rfl
theorem kl_8_203 : q_kl 8 203 = some 1114111 := rfl
theorem kl_8_205 : q_kl 8 205 = some 6 := rfl
theorem kl_8_207 : q_kl 8 207 = some 14 := rfl
theorem kl_8_209 : q_kl 8 209 = some 3 := rfl
theorem kl_8_270 : q_kl 8 270 = some 10 := rfl
theorem kl_8_243 : q_kl 8 243 = some (-16384) := rfl
theorem kl_8_245 : q_kl 8 245 = some 16383 := rfl
theorem kl_8_289 : q_kl 8 289 = some 5 := rfl
theorem kl_8_294 : q_kl 8 294 = some 16384 := rfl
def q_cnL : List (Nat × Nat × Nat × Nat × Nat × Nat) := [(9, 8, 7, 93, 94, 74), (7, 9, 0, 101, 102, 75), (7, 16, 3, 121, 122, 76), (3, 9, 0, 127, 102, 75), (3, 18, 6, 129, 130, 77), (3, 51, 1, 149, 150, 78), (7, 26, 4, 220, 221, 79), (4, 24, 2, 226, 227, 80), (4, 33, 5, 248, 250, 81), (5, 9, 2, 255, 227, 80), (9, 37, 8, 813, 814, 82)]
def q_okN (x : Nat × Nat × Nat × Nat × Nat × Nat) : Bool := match q_ow[x.1]?, q_cl[x.2.2.1]? with
  | some o, some (C, _, N) => q_has x.2.2.2.1 (.classLink o x.2.1 C) && q_has x.2.2.2.2.1 (.instantiable C N) && q_has x.2.2.2.2.2 (.initialized C)
  | _, _ => false
theorem q_cnL_ok : q_cnL.all q_okN = true := by decide +kernel
def q_cn (w j : Nat) : Option Nat := (q_cnL.find? (fun x => x.1 == w && x.2.1 == j)).map (fun x => x.2.2.1)
theorem cn_9_8 : q_cn 9 8 = some 7 := rfl
theorem cn_7_9 : q_cn 7 9 = some 0 := rfl
theorem cn_7_16 : q_cn 7 16 = some 3 := rfl
theorem cn_3_9 : q_cn 3 9 = some 0 := rfl
theorem cn_3_18 : q_cn 3 18 = some 6 := rfl
theorem cn_3_51 : q_cn 3 51 = some 1 := rfl
theorem cn_7_26 : q_cn 7 26 = some 4 := rfl
theorem cn_4_24 : q_cn 4 24 = some 2 := rfl
theorem cn_4_33 : q_cn 4 33 = some 5 := rfl
theorem cn_5_9 : q_cn 5 9 = some 2 := rfl
theorem cn_9_37 : q_cn 9 37 = some 8 := rfl
def q_mlL0 : List (Nat × Nat × Nat × q_MT × Nat × List Nat) := [(9, 36, 0, M_FO_init, 1, [95, 96, 74]), (7, 11, 0, M_By_init, 1, [103, 104, 75]), (7, 18, 0, M_Fo_init, 1, [123, 124, 76]), (3, 11, 0, M_By_init, 1, [128, 104, 75]), (3, 20, 1, M_Ta_init, 1, [131, 132, 77]), (3, 53, 1, M_Cm_init, 1, [151, 152, 78]), (7, 28, 1, M_Ou_init, 1, [222, 223, 79]), (4, 26, 1, M_Cu_init, 1, [228, 229, 80]), (4, 39, 1, M_Pa_init, 1, [251, 252, 81]), (5, 11, 1, M_Cu_init, 1, [256, 229, 80]), (9, 40, 5, M_FO_feed, 0, [346, 347, 348, 74]), (7, 46, 1, M_By_makeRoom, 0, [350, 351, 352, 75]), (0, 28, 2, M_Ar_copyOf, 2, [360, 361, 84]), (7, 50, 1, M_By_addWord, 0, [374, 375, 376, 75]), (9, 55, 1, M_FO_at, 0, [378, 379, 380, 74]), (7, 65, 1, M_By_u8, 0, [382, 383, 384, 75]), (9, 63, 1, M_FO_load, 0, [386, 387, 388, 74]), (7, 75, 1, M_Fo_takeFile, 0, [390, 391, 392, 76]), (3, 60, 1, M_By_copy, 0, [394, 395, 396, 75]), (0, 34, 1, M_By_makeRoom, 0, [398, 351, 352, 75]), (3, 67, 2, M_Ta_lay, 0, [400, 401, 402, 77]), (7, 78, 1, M_Fo_firstWrong, 0, [404, 405, 406, 76]), (3, 71, 0, M_Fo_isFile, 0, [408, 410, 0, 76]), (3, 94, 0, M_Fo_tables, 0, [412, 414, 1, 76]), (3, 90, 1, M_Ta_u16, 0, [416, 417, 418, 77]), (6, 29, 1, M_Ta_u8, 0, [420, 421, 422, 77]), (3, 98, 1, M_Ta_u32, 0, [424, 425, 426, 77]), (3, 106, 2, M_Ta_holds, 0, [430, 431, 432, 77]), (3, 75, 0, M_Fo_hasSums, 0, [435, 437, 2, 76]), (3, 112, 2, M_Fo_layByEntry, 0, [439, 441, 3, 76]), (3, 116, 1, M_Fo_sum, 0, [443, 445, 4, 76]), (3, 78, 0, M_Fo_hasTables, 0, [448, 450, 5, 76]), (3, 126, 2, M_Fo_finds, 0, [453, 455, 6, 76]), (3, 81, 0, M_Fo_hasCounts, 0, [463, 465, 7, 76]), (3, 84, 0, M_Fo_hasPlaces, 0, [467, 469, 8, 76]), (3, 149, 1, M_Fo_dataPlace, 0, [471, 472, 473, 76]), (3, 87, 0, M_Cm_isFound, 0, [475, 476, 477, 78]), (1, 26, 1, M_Ta_u16, 0, [479, 417, 418, 77]), (1, 34, 2, M_Ta_holds, 0, [481, 431, 432, 77]), (1, 38, 2, M_Cm_firstEntry, 0, [482, 484, 9, 78]), (1, 42, 1, M_Ta_u32, 0, [486, 425, 426, 77]), (1, 49, 0, M_Cm_hasGroups, 0, [487, 489, 10, 78]), (1, 53, 0, M_Cm_hasSegments, 0, [495, 497, 11, 78]), (1, 64, 1, M_Cm_lastOf, 0, [499, 501, 12, 78]), (1, 67, 1, M_Cm_firstOf, 0, [503, 505, 13, 78]), (7, 82, 1, M_Ou_readsAll, 0, [508, 509, 510, 79]), (4, 46, 2, M_Ou_readGlyph, 0, [512, 513, 514, 79]), (4, 59, 3, M_Ou_addsGlyph, 0, [516, 518, 14, 79]), (4, 66, 1, M_Fo_dataPlace, 0, [520, 472, 473, 76]), (4, 74, 3, M_Cu_begin, 0, [521, 522, 523, 80]), (4, 78, 0, M_Cu_u16, 0, [526, 527, 528, 80]), (4, 82, 1, M_Cu_pass, 0, [530, 531, 532, 80]), (4, 91, 1, M_Cu_follow, 0, [534, 535, 536, 80]), (4, 95, 3, M_Ou_addsParts, 0, [538, 540, 15, 79]), (4, 118, 0, M_Pa_isRead, 0, [542, 543, 544, 81]), (5, 24, 0, M_Cu_u16, 0, [546, 527, 528, 80]), (5, 31, 0, M_Pa_number, 0, [547, 549, 16, 81]), (5, 53, 1, M_Pa_has, 0, [551, 552, 553, 81]), (5, 57, 0, M_Cu_u8, 0, [555, 556, 557, 80]), (5, 40, 0, M_Pa_readFactors, 0, [559, 561, 17, 81])]
def q_mlL1 : List (Nat × Nat × Nat × q_MT × Nat × List Nat) := [(5, 47, 1, M_In_bitCount, 2, [563, 564, 91]), (4, 125, 3, M_Ou_isLaid, 0, [569, 571, 18, 79]), (4, 129, 1, M_Pa_has, 0, [573, 552, 553, 81]), (4, 138, 2, M_Pa_turnedX, 0, [574, 575, 576, 81]), (4, 142, 2, M_Pa_turnedY, 0, [578, 579, 580, 81]), (4, 115, 1, M_Ou_isCoordinate, 0, [582, 584, 19, 79]), (4, 98, 1, M_Ou_addsSimple, 0, [586, 588, 20, 79]), (4, 102, 1, M_Ou_addsContours, 0, [590, 592, 21, 79]), (4, 105, 1, M_Ou_readsFlags, 0, [594, 596, 22, 79]), (4, 112, 0, M_Cu_u8, 0, [598, 556, 557, 80]), (4, 108, 4, M_Ou_readsAxis, 0, [599, 601, 23, 79]), (9, 7, 2, M_FO_put, 0, [608, 609, 610, 74]), (7, 69, 2, M_By_change, 0, [695, 696, 697, 75]), (9, 17, 1, M_FO_cut, 0, [702, 703, 704, 74]), (9, 21, 1, M_FO_glyph, 0, [711, 712, 713, 74]), (7, 89, 0, M_FO_needFont, 0, [715, 717, 25, 74]), (7, 99, 1, M_Cm_glyphOf, 0, [737, 738, 739, 78]), (1, 71, 1, M_Cm_glyphByGroups, 0, [741, 743, 26, 78]), (1, 74, 1, M_Cm_glyphBySegments, 0, [746, 748, 27, 78]), (1, 79, 2, M_Cm_glyphBySegment, 0, [750, 752, 28, 78]), (9, 26, 2, M_FO_measure, 0, [758, 759, 760, 74]), (7, 105, 1, M_FO_isGlyph, 0, [762, 764, 29, 74]), (7, 111, 1, M_FO_show, 0, [767, 769, 30, 74]), (7, 166, 2, M_Ou_readGlyph, 0, [771, 513, 514, 79]), (7, 117, 1, M_Fo_widthOf, 0, [772, 773, 774, 76]), (7, 120, 1, M_Fo_leftOf, 0, [777, 778, 779, 76]), (3, 158, 1, M_Ta_s16, 0, [781, 782, 783, 77]), (6, 33, 1, M_Ta_u16, 0, [785, 417, 418, 77]), (7, 133, 1, M_Ou_least, 0, [786, 787, 788, 79]), (7, 140, 1, M_Ou_greatest, 0, [791, 792, 793, 79]), (9, 29, 3, M_FO_point, 0, [799, 800, 801, 74]), (9, 33, 1, M_FO_font, 0, [808, 809, 810, 74]), (9, 39, 0, M_Mo_init, 1, [815, 816, 82]), (9, 51, 0, M_Mo_thrown, 0, [924, 925, 926, 82]), (9, 44, 5, M_Mo_feed, 0, [928, 929, 930, 82]), (8, 97, 1, M_Mo_put4, 0, [932, 934, 31, 82]), (9, 50, 2, M_Mo_put, 0, [936, 937, 938, 82]), (8, 101, 1, M_Mo_refused, 0, [940, 942, 32, 82]), (9, 58, 1, M_Mo_at, 0, [944, 945, 946, 82]), (9, 62, 1, M_Mo_cut, 0, [948, 949, 950, 82]), (9, 67, 1, M_Mo_load, 0, [952, 953, 954, 82]), (8, 215, 0, M_Mo_checkFile, 0, [956, 958, 33, 82]), (8, 135, 3, M_Mo_u32, 0, [960, 962, 34, 82]), (8, 120, 3, M_Mo_u16, 0, [965, 967, 35, 82]), (8, 116, 3, M_Mo_u8, 0, [969, 971, 36, 82]), (8, 109, 1, M_Mo_need, 0, [973, 975, 37, 82]), (8, 141, 0, M_Mo_tables, 0, [978, 980, 38, 82]), (8, 218, 0, M_Mo_checkSums, 0, [987, 989, 39, 82]), (8, 157, 2, M_Mo_sumOf, 0, [991, 993, 40, 82]), (8, 221, 0, M_Mo_findTables, 0, [997, 999, 41, 82]), (8, 224, 0, M_Mo_checkForms, 0, [1001, 1003, 42, 82]), (8, 161, 2, M_Mo_t16, 0, [1006, 1008, 43, 82]), (8, 128, 1, M_Mo_tableAt, 0, [1010, 1012, 44, 82]), (8, 132, 1, M_Mo_tableLength, 0, [1014, 1016, 45, 82]), (8, 175, 0, M_Mo_glyphCount, 0, [1019, 1021, 46, 82]), (8, 178, 0, M_Mo_longCount, 0, [1023, 1025, 47, 82]), (8, 181, 1, M_Mo_dataAt, 0, [1028, 1030, 48, 82]), (8, 169, 2, M_Mo_t32, 0, [1032, 1034, 49, 82]), (8, 185, 0, M_Mo_checkMap, 0, [1036, 1038, 50, 82]), (8, 192, 1, M_Mo_hasMap, 0, [1040, 1042, 51, 82])]
def q_mlL2 : List (Nat × Nat × Nat × q_MT × Nat × List Nat) := [(8, 188, 1, M_Mo_mapAt, 0, [1044, 1046, 52, 82]), (8, 196, 1, M_Mo_checkGroups, 0, [1048, 1050, 53, 82]), (8, 200, 1, M_Mo_checkSegments, 0, [1053, 1055, 54, 82]), (8, 227, 0, M_Mo_checkGlyphs, 0, [1061, 1063, 55, 82]), (8, 212, 1, M_Mo_readGlyph, 0, [1065, 1067, 56, 82]), (8, 253, 2, M_Mo_begin, 0, [1069, 1071, 57, 82]), (8, 263, 3, M_Mo_s16, 0, [1073, 1075, 58, 82]), (8, 266, 4, M_Mo_readSimple, 0, [1078, 1080, 59, 82]), (8, 272, 5, M_Mo_readFlags, 0, [1083, 1085, 60, 82]), (8, 276, 6, M_Mo_readSteps, 0, [1087, 1089, 61, 82]), (8, 280, 1, M_Mo_isCoordinate, 2, [1091, 1092, 82]), (8, 257, 1, M_Mo_readPart, 0, [1096, 1098, 62, 82]), (8, 285, 4, M_Mo_number, 0, [1100, 1102, 63, 82]), (8, 291, 2, M_Mo_f16, 0, [1106, 1108, 64, 82]), (8, 260, 1, M_Mo_join, 0, [1110, 1112, 65, 82]), (8, 296, 4, M_Mo_turned, 2, [1114, 1115, 82]), (9, 70, 1, M_Mo_glyph, 0, [1118, 1119, 1120, 82]), (8, 237, 1, M_Mo_groupGlyph, 0, [1123, 1125, 66, 82]), (8, 240, 1, M_Mo_segmentGlyph, 0, [1127, 1129, 67, 82]), (9, 73, 2, M_Mo_measure, 0, [1131, 1132, 1133, 82]), (8, 300, 1, M_Mo_isGlyph, 0, [1135, 1137, 68, 82]), (8, 303, 1, M_Mo_lends, 0, [1139, 1141, 69, 82]), (8, 306, 1, M_Mo_width, 0, [1143, 1145, 70, 82]), (8, 309, 1, M_Mo_left, 0, [1147, 1149, 71, 82]), (8, 312, 2, M_Mo_bound, 0, [1151, 1153, 72, 82]), (9, 77, 3, M_Mo_point, 0, [1155, 1156, 1157, 82]), (9, 80, 1, M_Mo_font, 0, [1159, 1160, 1161, 82])]
def q_mlL : List (Nat × Nat × Nat × q_MT × Nat × List Nat) := q_mlL0 ++ q_mlL1 ++ q_mlL2
def q_okL (x : Nat × Nat × Nat × q_MT × Nat × List Nat) : Bool := match q_ow[x.1]? with
  | some o => q_okM x.2.2.2.1 && decide ((parseMethodDescriptor (q_y x.2.2.2.1).desc).map (fun d => d.parameters.length) = some x.2.2.1) && (match x.2.2.2.2.1 with
    | 0 => q_hasL x.2.2.2.2.2 [.methodLink o x.2.1 (q_y x.2.2.2.1), .instanceMethod (q_y x.2.2.2.1), .selects (q_y x.2.2.2.1).cls (q_y x.2.2.2.1) (q_y x.2.2.2.1), .initialized (q_y x.2.2.2.1).cls]
    | 1 => q_hasL x.2.2.2.2.2 [.methodLink o x.2.1 (q_y x.2.2.2.1), .instanceMethod (q_y x.2.2.2.1), .initialized (q_y x.2.2.2.1).cls] && decide ((q_y x.2.2.2.1).name = "<init>") && decide (q_r x.2.2.2.1 = none)
    | _ => q_hasL x.2.2.2.2.2 [.methodLink o x.2.1 (q_y x.2.2.2.1), .static (q_y x.2.2.2.1), .initialized (q_y x.2.2.2.1).cls])
  | none => false
theorem q_mlL0_ok : q_mlL0.all q_okL = true := by decide +kernel
theorem q_mlL1_ok : q_mlL1.all q_okL = true := by decide +kernel
theorem q_mlL2_ok : q_mlL2.all q_okL = true := by decide +kernel
theorem q_mlL_ok : q_mlL.all q_okL = true := by
  unfold q_mlL
  simp only [List.all_append, q_mlL0_ok, q_mlL1_ok, q_mlL2_ok, Bool.and_self]
def q_ml (w j : Nat) : Option (Nat × q_MT × Nat) := (q_mlL.find? (fun x => x.1 == w && x.2.1 == j)).map (fun x => (x.2.2.1, x.2.2.2.1, x.2.2.2.2.1))
theorem ml_9_36 : q_ml 9 36 = some (0, M_FO_init, 1) := rfl
theorem ml_7_11 : q_ml 7 11 = some (0, M_By_init, 1) := rfl
theorem ml_7_18 : q_ml 7 18 = some (0, M_Fo_init, 1) := rfl
theorem ml_3_11 : q_ml 3 11 = some (0, M_By_init, 1) := rfl
theorem ml_3_20 : q_ml 3 20 = some (1, M_Ta_init, 1) := rfl
theorem ml_3_53 : q_ml 3 53 = some (1, M_Cm_init, 1) := rfl
theorem ml_7_28 : q_ml 7 28 = some (1, M_Ou_init, 1) := rfl
theorem ml_4_26 : q_ml 4 26 = some (1, M_Cu_init, 1) := rfl
theorem ml_4_39 : q_ml 4 39 = some (1, M_Pa_init, 1) := rfl
theorem ml_5_11 : q_ml 5 11 = some (1, M_Cu_init, 1) := rfl
theorem ml_9_40 : q_ml 9 40 = some (5, M_FO_feed, 0) := rfl
theorem ml_7_46 : q_ml 7 46 = some (1, M_By_makeRoom, 0) := rfl
theorem ml_0_28 : q_ml 0 28 = some (2, M_Ar_copyOf, 2) := rfl
theorem ml_7_50 : q_ml 7 50 = some (1, M_By_addWord, 0) := rfl
theorem ml_9_55 : q_ml 9 55 = some (1, M_FO_at, 0) := rfl
theorem ml_7_65 : q_ml 7 65 = some (1, M_By_u8, 0) := rfl
theorem ml_9_63 : q_ml 9 63 = some (1, M_FO_load, 0) := rfl
theorem ml_7_75 : q_ml 7 75 = some (1, M_Fo_takeFile, 0) := rfl
theorem ml_3_60 : q_ml 3 60 = some (1, M_By_copy, 0) := rfl
theorem ml_0_34 : q_ml 0 34 = some (1, M_By_makeRoom, 0) := rfl
theorem ml_3_67 : q_ml 3 67 = some (2, M_Ta_lay, 0) := rfl
theorem ml_7_78 : q_ml 7 78 = some (1, M_Fo_firstWrong, 0) := rfl
theorem ml_3_71 : q_ml 3 71 = some (0, M_Fo_isFile, 0) := rfl
theorem ml_3_94 : q_ml 3 94 = some (0, M_Fo_tables, 0) := rfl
theorem ml_3_90 : q_ml 3 90 = some (1, M_Ta_u16, 0) := rfl
theorem ml_6_29 : q_ml 6 29 = some (1, M_Ta_u8, 0) := rfl
theorem ml_3_98 : q_ml 3 98 = some (1, M_Ta_u32, 0) := rfl
theorem ml_3_106 : q_ml 3 106 = some (2, M_Ta_holds, 0) := rfl
theorem ml_3_75 : q_ml 3 75 = some (0, M_Fo_hasSums, 0) := rfl
theorem ml_3_112 : q_ml 3 112 = some (2, M_Fo_layByEntry, 0) := rfl
theorem ml_3_116 : q_ml 3 116 = some (1, M_Fo_sum, 0) := rfl
theorem ml_3_78 : q_ml 3 78 = some (0, M_Fo_hasTables, 0) := rfl
theorem ml_3_126 : q_ml 3 126 = some (2, M_Fo_finds, 0) := rfl
theorem ml_3_81 : q_ml 3 81 = some (0, M_Fo_hasCounts, 0) := rfl
theorem ml_3_84 : q_ml 3 84 = some (0, M_Fo_hasPlaces, 0) := rfl
theorem ml_3_149 : q_ml 3 149 = some (1, M_Fo_dataPlace, 0) := rfl
theorem ml_3_87 : q_ml 3 87 = some (0, M_Cm_isFound, 0) := rfl
theorem ml_1_26 : q_ml 1 26 = some (1, M_Ta_u16, 0) := rfl
theorem ml_1_34 : q_ml 1 34 = some (2, M_Ta_holds, 0) := rfl
theorem ml_1_38 : q_ml 1 38 = some (2, M_Cm_firstEntry, 0) := rfl
theorem ml_1_42 : q_ml 1 42 = some (1, M_Ta_u32, 0) := rfl
theorem ml_1_49 : q_ml 1 49 = some (0, M_Cm_hasGroups, 0) := rfl
theorem ml_1_53 : q_ml 1 53 = some (0, M_Cm_hasSegments, 0) := rfl
theorem ml_1_64 : q_ml 1 64 = some (1, M_Cm_lastOf, 0) := rfl
theorem ml_1_67 : q_ml 1 67 = some (1, M_Cm_firstOf, 0) := rfl
theorem ml_7_82 : q_ml 7 82 = some (1, M_Ou_readsAll, 0) := rfl
theorem ml_4_46 : q_ml 4 46 = some (2, M_Ou_readGlyph, 0) := rfl
theorem ml_4_59 : q_ml 4 59 = some (3, M_Ou_addsGlyph, 0) := rfl
theorem ml_4_66 : q_ml 4 66 = some (1, M_Fo_dataPlace, 0) := rfl
theorem ml_4_74 : q_ml 4 74 = some (3, M_Cu_begin, 0) := rfl
theorem ml_4_78 : q_ml 4 78 = some (0, M_Cu_u16, 0) := rfl
theorem ml_4_82 : q_ml 4 82 = some (1, M_Cu_pass, 0) := rfl
theorem ml_4_91 : q_ml 4 91 = some (1, M_Cu_follow, 0) := rfl
theorem ml_4_95 : q_ml 4 95 = some (3, M_Ou_addsParts, 0) := rfl
theorem ml_4_118 : q_ml 4 118 = some (0, M_Pa_isRead, 0) := rfl
theorem ml_5_24 : q_ml 5 24 = some (0, M_Cu_u16, 0) := rfl
theorem ml_5_31 : q_ml 5 31 = some (0, M_Pa_number, 0) := rfl
theorem ml_5_53 : q_ml 5 53 = some (1, M_Pa_has, 0) := rfl
theorem ml_5_57 : q_ml 5 57 = some (0, M_Cu_u8, 0) := rfl
theorem ml_5_40 : q_ml 5 40 = some (0, M_Pa_readFactors, 0) := rfl
theorem ml_5_47 : q_ml 5 47 = some (1, M_In_bitCount, 2) := rfl
theorem ml_4_125 : q_ml 4 125 = some (3, M_Ou_isLaid, 0) := rfl
theorem ml_4_129 : q_ml 4 129 = some (1, M_Pa_has, 0) := rfl
theorem ml_4_138 : q_ml 4 138 = some (2, M_Pa_turnedX, 0) := rfl
theorem ml_4_142 : q_ml 4 142 = some (2, M_Pa_turnedY, 0) := rfl
theorem ml_4_115 : q_ml 4 115 = some (1, M_Ou_isCoordinate, 0) := rfl
theorem ml_4_98 : q_ml 4 98 = some (1, M_Ou_addsSimple, 0) := rfl
theorem ml_4_102 : q_ml 4 102 = some (1, M_Ou_addsContours, 0) := rfl
theorem ml_4_105 : q_ml 4 105 = some (1, M_Ou_readsFlags, 0) := rfl
theorem ml_4_112 : q_ml 4 112 = some (0, M_Cu_u8, 0) := rfl
theorem ml_4_108 : q_ml 4 108 = some (4, M_Ou_readsAxis, 0) := rfl
theorem ml_9_7 : q_ml 9 7 = some (2, M_FO_put, 0) := rfl
theorem ml_7_69 : q_ml 7 69 = some (2, M_By_change, 0) := rfl
theorem ml_9_17 : q_ml 9 17 = some (1, M_FO_cut, 0) := rfl
theorem ml_9_21 : q_ml 9 21 = some (1, M_FO_glyph, 0) := rfl
theorem ml_7_89 : q_ml 7 89 = some (0, M_FO_needFont, 0) := rfl
theorem ml_7_99 : q_ml 7 99 = some (1, M_Cm_glyphOf, 0) := rfl
theorem ml_1_71 : q_ml 1 71 = some (1, M_Cm_glyphByGroups, 0) := rfl
theorem ml_1_74 : q_ml 1 74 = some (1, M_Cm_glyphBySegments, 0) := rfl
theorem ml_1_79 : q_ml 1 79 = some (2, M_Cm_glyphBySegment, 0) := rfl
theorem ml_9_26 : q_ml 9 26 = some (2, M_FO_measure, 0) := rfl
theorem ml_7_105 : q_ml 7 105 = some (1, M_FO_isGlyph, 0) := rfl
theorem ml_7_111 : q_ml 7 111 = some (1, M_FO_show, 0) := rfl
theorem ml_7_166 : q_ml 7 166 = some (2, M_Ou_readGlyph, 0) := rfl
theorem ml_7_117 : q_ml 7 117 = some (1, M_Fo_widthOf, 0) := rfl
theorem ml_7_120 : q_ml 7 120 = some (1, M_Fo_leftOf, 0) := rfl
theorem ml_3_158 : q_ml 3 158 = some (1, M_Ta_s16, 0) := rfl
theorem ml_6_33 : q_ml 6 33 = some (1, M_Ta_u16, 0) := rfl
theorem ml_7_133 : q_ml 7 133 = some (1, M_Ou_least, 0) := rfl
theorem ml_7_140 : q_ml 7 140 = some (1, M_Ou_greatest, 0) := rfl
theorem ml_9_29 : q_ml 9 29 = some (3, M_FO_point, 0) := rfl
theorem ml_9_33 : q_ml 9 33 = some (1, M_FO_font, 0) := rfl
theorem ml_9_39 : q_ml 9 39 = some (0, M_Mo_init, 1) := rfl
theorem ml_9_51 : q_ml 9 51 = some (0, M_Mo_thrown, 0) := rfl
theorem ml_9_44 : q_ml 9 44 = some (5, M_Mo_feed, 0) := rfl
theorem ml_8_97 : q_ml 8 97 = some (1, M_Mo_put4, 0) := rfl
theorem ml_9_50 : q_ml 9 50 = some (2, M_Mo_put, 0) := rfl
theorem ml_8_101 : q_ml 8 101 = some (1, M_Mo_refused, 0) := rfl
theorem ml_9_58 : q_ml 9 58 = some (1, M_Mo_at, 0) := rfl
theorem ml_9_62 : q_ml 9 62 = some (1, M_Mo_cut, 0) := rfl
theorem ml_9_67 : q_ml 9 67 = some (1, M_Mo_load, 0) := rfl
theorem ml_8_215 : q_ml 8 215 = some (0, M_Mo_checkFile, 0) := rfl
theorem ml_8_135 : q_ml 8 135 = some (3, M_Mo_u32, 0) := rfl
theorem ml_8_120 : q_ml 8 120 = some (3, M_Mo_u16, 0) := rfl
theorem ml_8_116 : q_ml 8 116 = some (3, M_Mo_u8, 0) := rfl
theorem ml_8_109 : q_ml 8 109 = some (1, M_Mo_need, 0) := rfl
theorem ml_8_141 : q_ml 8 141 = some (0, M_Mo_tables, 0) := rfl
theorem ml_8_218 : q_ml 8 218 = some (0, M_Mo_checkSums, 0) := rfl
theorem ml_8_157 : q_ml 8 157 = some (2, M_Mo_sumOf, 0) := rfl
theorem ml_8_221 : q_ml 8 221 = some (0, M_Mo_findTables, 0) := rfl
theorem ml_8_224 : q_ml 8 224 = some (0, M_Mo_checkForms, 0) := rfl
theorem ml_8_161 : q_ml 8 161 = some (2, M_Mo_t16, 0) := rfl
theorem ml_8_128 : q_ml 8 128 = some (1, M_Mo_tableAt, 0) := rfl
theorem ml_8_132 : q_ml 8 132 = some (1, M_Mo_tableLength, 0) := rfl
theorem ml_8_175 : q_ml 8 175 = some (0, M_Mo_glyphCount, 0) := rfl
theorem ml_8_178 : q_ml 8 178 = some (0, M_Mo_longCount, 0) := rfl
theorem ml_8_181 : q_ml 8 181 = some (1, M_Mo_dataAt, 0) := rfl
theorem ml_8_169 : q_ml 8 169 = some (2, M_Mo_t32, 0) := rfl
theorem ml_8_185 : q_ml 8 185 = some (0, M_Mo_checkMap, 0) := rfl
theorem ml_8_192 : q_ml 8 192 = some (1, M_Mo_hasMap, 0) := rfl
theorem ml_8_188 : q_ml 8 188 = some (1, M_Mo_mapAt, 0) := rfl
theorem ml_8_196 : q_ml 8 196 = some (1, M_Mo_checkGroups, 0) := rfl
theorem ml_8_200 : q_ml 8 200 = some (1, M_Mo_checkSegments, 0) := rfl
theorem ml_8_227 : q_ml 8 227 = some (0, M_Mo_checkGlyphs, 0) := rfl
theorem ml_8_212 : q_ml 8 212 = some (1, M_Mo_readGlyph, 0) := rfl
theorem ml_8_253 : q_ml 8 253 = some (2, M_Mo_begin, 0) := rfl
theorem ml_8_263 : q_ml 8 263 = some (3, M_Mo_s16, 0) := rfl
theorem ml_8_266 : q_ml 8 266 = some (4, M_Mo_readSimple, 0) := rfl
theorem ml_8_272 : q_ml 8 272 = some (5, M_Mo_readFlags, 0) := rfl
theorem ml_8_276 : q_ml 8 276 = some (6, M_Mo_readSteps, 0) := rfl
theorem ml_8_280 : q_ml 8 280 = some (1, M_Mo_isCoordinate, 2) := rfl
theorem ml_8_257 : q_ml 8 257 = some (1, M_Mo_readPart, 0) := rfl
theorem ml_8_285 : q_ml 8 285 = some (4, M_Mo_number, 0) := rfl
theorem ml_8_291 : q_ml 8 291 = some (2, M_Mo_f16, 0) := rfl
theorem ml_8_260 : q_ml 8 260 = some (1, M_Mo_join, 0) := rfl
theorem ml_8_296 : q_ml 8 296 = some (4, M_Mo_turned, 2) := rfl
theorem ml_9_70 : q_ml 9 70 = some (1, M_Mo_glyph, 0) := rfl
theorem ml_8_237 : q_ml 8 237 = some (1, M_Mo_groupGlyph, 0) := rfl
theorem ml_8_240 : q_ml 8 240 = some (1, M_Mo_segmentGlyph, 0) := rfl
theorem ml_9_73 : q_ml 9 73 = some (2, M_Mo_measure, 0) := rfl
theorem ml_8_300 : q_ml 8 300 = some (1, M_Mo_isGlyph, 0) := rfl
theorem ml_8_303 : q_ml 8 303 = some (1, M_Mo_lends, 0) := rfl
theorem ml_8_306 : q_ml 8 306 = some (1, M_Mo_width, 0) := rfl
theorem ml_8_309 : q_ml 8 309 = some (1, M_Mo_left, 0) := rfl
theorem ml_8_312 : q_ml 8 312 = some (2, M_Mo_bound, 0) := rfl
theorem ml_9_77 : q_ml 9 77 = some (3, M_Mo_point, 0) := rfl
theorem ml_9_80 : q_ml 9 80 = some (1, M_Mo_font, 0) := rfl
def q_mmL : List (Nat × Nat × Bool × Nat) := [(0, 19, true, 354), (0, 25, false, 357), (11, 304, false, 370), (2, 35, false, 525), (3, 152, false, 776), (4, 145, false, 790), (4, 150, true, 795)]
theorem q_mmL_ok : q_mmL.all (fun x => match q_ow[x.1]? with | some o => q_has x.2.2.2 (.methodLink o x.2.1 (if x.2.2.1 then Lib.Math.max.name else Lib.Math.min.name)) | none => false) = true := by decide +kernel
def q_mm (w j : Nat) : Option Bool := (q_mmL.find? (fun x => x.1 == w && x.2.1 == j)).map (fun x => x.2.2.1)
theorem mm_0_19 : q_mm 0 19 = some true := rfl
theorem mm_0_25 : q_mm 0 25 = some false := rfl
theorem mm_11_304 : q_mm 11 304 = some false := rfl
theorem mm_2_35 : q_mm 2 35 = some false := rfl
theorem mm_3_152 : q_mm 3 152 = some false := rfl
theorem mm_4_145 : q_mm 4 145 = some false := rfl
theorem mm_4_150 : q_mm 4 150 = some true := rfl
theorem q_st_max : Cond.static Lib.Math.max.name ∈ q_tbl := q_has_in (i := 355) (by decide +kernel)
theorem q_co_max : Cond.code Lib.Math.max.name Lib.Math.max.code 2 (some .int) ∈ q_tbl := q_has_in (i := 356) (by decide +kernel)
theorem q_st_min : Cond.static Lib.Math.min.name ∈ q_tbl := q_has_in (i := 358) (by decide +kernel)
theorem q_co_min : Cond.code Lib.Math.min.name Lib.Math.min.code 2 (some .int) ∈ q_tbl := q_has_in (i := 359) (by decide +kernel)
theorem q_in_Math : Cond.initialized "java/lang/Math" ∈ q_tbl := q_has_in (i := 83) (by decide +kernel)
def q_acL : List (Nat × Nat × Nat) := [(11, 150, 371), (0, 38, 399)]
theorem q_acL_ok : q_acL.all (fun x => match q_ow[x.1]? with | some o => q_has x.2.2 (.methodLink o x.2.1 arraycopyName) | none => false) = true := by decide +kernel
def q_ac (w j : Nat) : Bool := q_acL.any (fun x => x.1 == w && x.2.1 == j)
theorem ac_11_150 : q_ac 11 150 = true := rfl
theorem ac_0_38 : q_ac 0 38 = true := rfl
theorem q_st_ac : Cond.static arraycopyName ∈ q_tbl := q_has_in (i := 372) (by decide +kernel)
theorem q_na_ac : Cond.native arraycopyName ∈ q_tbl := q_has_in (i := 373) (by decide +kernel)
theorem q_in_Sys : Cond.initialized "java/lang/System" ∈ q_tbl := q_has_in (i := 85) (by decide +kernel)
def q_oiL : List (Nat × Nat × Nat) := [(7, 3, 98), (0, 3, 106), (3, 3, 126), (6, 1, 134), (1, 3, 154), (4, 3, 225), (2, 1, 231), (5, 3, 254), (8, 1, 818)]
theorem q_oiL_ok : q_oiL.all (fun x => match q_ow[x.1]? with | some o => q_has x.2.2 (.methodLink o x.2.1 Lib.objectInit) | none => false) = true := by decide +kernel
def q_oi (w j : Nat) : Bool := q_oiL.any (fun x => x.1 == w && x.2.1 == j)
theorem oi_7_3 : q_oi 7 3 = true := rfl
theorem oi_0_3 : q_oi 0 3 = true := rfl
theorem oi_3_3 : q_oi 3 3 = true := rfl
theorem oi_6_1 : q_oi 6 1 = true := rfl
theorem oi_1_3 : q_oi 1 3 = true := rfl
theorem oi_4_3 : q_oi 4 3 = true := rfl
theorem oi_2_1 : q_oi 2 1 = true := rfl
theorem oi_5_3 : q_oi 5 3 = true := rfl
theorem oi_8_1 : q_oi 8 1 = true := rfl
def q_anL : List (Nat × Nat × Nat) := [(4, 33, 248)]
theorem q_anL_ok : q_anL.all (fun x => match q_ow[x.1]? with | some o => q_has x.2.2 (.classLink o x.2.1 "FontOutlines$Part") | none => false) = true := by decide +kernel
def q_an (w j : Nat) : Bool := q_anL.any (fun x => x.1 == w && x.2.1 == j)
theorem an_4_33 : q_an 4 33 = true := rfl
theorem q_ao : Cond.arrayOver (.object "FontOutlines$Part") ∈ lw_tbl := List.mem_of_getElem? (i := 249) (by decide +kernel)
theorem q_oIn : Cond.instanceMethod Lib.objectInit ∈ q_tbl := q_has_in (i := 99) (by decide +kernel)
theorem q_oCo : Cond.code Lib.objectInit ⟨#[0xb1]⟩ 1 none ∈ q_tbl := q_has_in (i := 100) (by decide +kernel)
theorem q_ac_int : Cond.arrayClass .int ∈ q_tbl := q_has_in (i := 247) (by decide +kernel)
theorem q_ac_byte : Cond.arrayClass .byte ∈ q_tbl := q_has_in (i := 120) (by decide +kernel)
theorem q_ac_long : Cond.arrayClass .long ∈ q_tbl := q_has_in (i := 1163) (by decide +kernel)
theorem q_ac_boolean : Cond.arrayClass .boolean ∈ q_tbl := q_has_in (i := 923) (by decide +kernel)
end
section
/-! MY MACHINE: abstract cells, locals as a list, blocks of instructions; what an instruction asks, as a proposition -/
abbrev q_E : Type := (Nat × vp_A) ⊕ (Nat × List Value)
abbrev q_H : Type := Nat → Option q_E
/-- class numbers and slots; the classes of the kinds of arrays; where new cells begin -/
abbrev q_G : Type := va_G × (Nat → ClassId) × Nat
abbrev q_L : Type := List (Option Value)
abbrev q_P : Type := Option Value → q_H → Nat → Prop
/-- locals, stack, cells, the next address, cells and slots used -/
abbrev q_C : Type := q_L → List Value → q_H → Nat → Nat → Nat → Prop
abbrev q_B : Type := List (Nat × List (Instr × Nat × Nat) × Nat)
def q_kind : Nat → FieldType
  | 0 => .int
  | 1 => .byte
  | 2 => .long
  | 3 => .boolean
  | _ => .object "FontOutlines$Part"
def q_tys (G : q_G) : List (ClassId × FieldType) := [(G.2.1 0, .int), (G.2.1 1, .byte), (G.2.1 2, .long), (G.2.1 3, .boolean), (G.2.1 4, .object "FontOutlines$Part")]
def q_e (G : q_G) (e : q_E) : va_E := match e with
  | .inl a => .inl (G.2.1 a.1, a.2)
  | .inr o => .inr o
def q_set (h : q_H) (a : Nat) (e : q_E) : q_H := fun b => if b = a then some e else h b
def q_rel (G : q_G) (h : q_H) (n : Nat) (H : Heap) : Prop := H.size = n ∧ ∀ (a : Nat) (e : q_E), h a = some e → G.2.2 ≤ a ∧ va_at G.1 q_cl (a, q_e G e) H
theorem q_rel.lt {G : q_G} {h : q_H} {n : Nat} {H : Heap} (r : q_rel G h n H) {a : Nat} {e : q_E} (ha : h a = some e) : a < n := by
  have := (r.2 a e ha).2.lt
  rw [r.1] at this
  exact this
theorem q_rel.upd {G : q_G} {h : q_H} {n : Nat} {H H1 : Heap} (r : q_rel G h n H) {a : Nat} {e0 e1 : q_E} (ha : h a = some e0) (hat : va_at G.1 q_cl (a, q_e G e1) H1) (hz : H1.size = H.size) (ho : ∀ q : Nat, q ≠ a → H1[q]? = H[q]?) : q_rel G (q_set h a e1) n H1 := by
  refine ⟨hz.trans r.1, fun b e hb => ?_⟩
  unfold q_set at hb
  by_cases hba : b = a
  · rw [if_pos hba] at hb
    cases hb
    subst hba
    exact ⟨(r.2 b e0 ha).1, hat⟩
  · rw [if_neg hba] at hb
    exact ⟨(r.2 b e hb).1, (r.2 b e hb).2.kept (ho b hba)⟩
theorem q_rel.push {G : q_G} {h : q_H} {n : Nat} {H H1 : Heap} (r : q_rel G h n H) {e1 : q_E} (hb : G.2.2 ≤ n) (hat : va_at G.1 q_cl (n, q_e G e1) H1) (hz : H1.size = n + 1) (ho : ∀ q : Nat, q < n → H1[q]? = H[q]?) : q_rel G (q_set h n e1) (n + 1) H1 := by
  refine ⟨hz, fun b e he => ?_⟩
  unfold q_set at he
  by_cases hba : b = n
  · rw [if_pos hba] at he
    cases he
    subst hba
    exact ⟨hb, hat⟩
  · rw [if_neg hba] at he
    exact ⟨(r.2 b e he).1, (r.2 b e he).2.kept (ho b (r.lt he))⟩
-- locals
def q_get : q_L → Nat → Option Value
  | [], _ => none
  | o :: _, 0 => o
  | _ :: r, i + 1 => q_get r i
def q_n2 : Option Value → Option Value
  | some (.long _) => none
  | some (.double _) => none
  | o => o
def q_p1 : q_L → Nat → Value → q_L
  | [], _, _ => []
  | _ :: r, 0, v => some v :: r
  | o :: r, 1, v => q_n2 o :: q_p1 r 0 v
  | o :: r, i + 2, v => o :: q_p1 r (i + 1) v
def q_p2 : q_L → Nat → Value → q_L
  | [], _, _ => []
  | [_], 0, v => [some v]
  | _ :: _ :: r, 0, v => some v :: none :: r
  | o :: r, 1, v => q_n2 o :: q_p2 r 0 v
  | o :: r, i + 2, v => o :: q_p2 r (i + 1) v
def q_pr : Nat → q_L → List (Nat × Value)
  | _, [] => []
  | i, none :: r => q_pr (i + 1) r
  | i, some v :: r => (i, v) :: q_pr (i + 1) r
theorem q_pr_m : ∀ (lv : q_L) (i j : Nat) (v : Value), (j, v) ∈ q_pr i lv ↔ ∃ e, j = i + e ∧ q_get lv e = some v
  | [], i, j, v => by simp [q_pr, q_get]
  | none :: r, i, j, v => by
    rw [show q_pr i (none :: r) = q_pr (i + 1) r from rfl, q_pr_m r]
    constructor
    · rintro ⟨e, h1, h2⟩; exact ⟨e + 1, by omega, h2⟩
    · rintro ⟨e, h1, h2⟩
      cases e with
      | zero => cases h2
      | succ e => exact ⟨e, by omega, h2⟩
  | some w :: r, i, j, v => by
    rw [show q_pr i (some w :: r) = (i, w) :: q_pr (i + 1) r from rfl, List.mem_cons, q_pr_m r]
    constructor
    · rintro (h | ⟨e, h1, h2⟩)
      · cases h; exact ⟨0, rfl, rfl⟩
      · exact ⟨e + 1, by omega, h2⟩
    · rintro ⟨e, h1, h2⟩
      cases e with
      | zero => left; simp only [q_get] at h2; cases h2; simp at h1; rw [h1]
      | succ e => right; exact ⟨e, by omega, h2⟩
def q_lv (ls : Array Slot) (nL : Nat) (lv : q_L) : Prop := lv_has ls nL (q_pr 0 lv)
theorem q_lv.at {ls : Array Slot} {nL : Nat} {lv : q_L} (h : q_lv ls nL lv) {i : Nat} {v : Value} (hv : q_get lv i = some v) : ls[i]? = some (.val v) := h.2.2 (i, v) ((q_pr_m lv 0 i v).mpr ⟨i, by omega, hv⟩)
theorem q_n2_s {o : Option Value} {v : Value} (h : q_n2 o = some v) : o = some v ∧ ¬ v.category = 2 := by
  cases o with
  | none => cases h
  | some w => cases w <;> first | (cases h; done) | (cases h; exact ⟨rfl, by simp [Value.category]⟩)
theorem q_p1_g : ∀ (lv : q_L) (i : Nat) (v : Value) (j : Nat) (w : Value), q_get (q_p1 lv i v) j = some w → (j = i ∧ w = v) ∨ (j ≠ i ∧ q_get lv j = some w ∧ ¬ (j + 1 = i ∧ w.category = 2))
  | [], i, v, j, w, h => by simp [q_p1, q_get] at h
  | o :: r, 0, v, 0, w, h => by simp only [q_p1, q_get] at h; cases h; exact Or.inl ⟨rfl, rfl⟩
  | o :: r, 0, v, j + 1, w, h => by simp only [q_p1, q_get] at h; exact Or.inr ⟨by omega, h, by omega⟩
  | o :: r, 1, v, 0, w, h => by
    simp only [q_p1, q_get] at h
    have := q_n2_s h
    exact Or.inr ⟨by omega, this.1, fun q => this.2 q.2⟩
  | o :: r, 1, v, j + 1, w, h => by
    simp only [q_p1, q_get] at h
    rcases q_p1_g r 0 v j w h with ⟨h1, h2⟩ | ⟨h1, h2, h3⟩
    · exact Or.inl ⟨by omega, h2⟩
    · exact Or.inr ⟨by omega, h2, by omega⟩
  | o :: r, i + 2, v, 0, w, h => by simp only [q_p1, q_get] at h; exact Or.inr ⟨by omega, h, by omega⟩
  | o :: r, i + 2, v, j + 1, w, h => by
    simp only [q_p1, q_get] at h
    rcases q_p1_g r (i + 1) v j w h with ⟨h1, h2⟩ | ⟨h1, h2, h3⟩
    · exact Or.inl ⟨by omega, h2⟩
    · exact Or.inr ⟨by omega, h2, fun q => h3 ⟨by omega, q.2⟩⟩
theorem q_p2_g : ∀ (lv : q_L) (i : Nat) (v : Value) (j : Nat) (w : Value), q_get (q_p2 lv i v) j = some w → (j = i ∧ w = v) ∨ (j ≠ i ∧ j ≠ i + 1 ∧ q_get lv j = some w ∧ ¬ (j + 1 = i ∧ w.category = 2))
  | [], i, v, j, w, h => by simp [q_p2, q_get] at h
  | [o], 0, v, 0, w, h => by simp only [q_p2, q_get] at h; cases h; exact Or.inl ⟨rfl, rfl⟩
  | [o], 0, v, j + 1, w, h => by simp [q_p2, q_get] at h
  | o :: o2 :: r, 0, v, 0, w, h => by simp only [q_p2, q_get] at h; cases h; exact Or.inl ⟨rfl, rfl⟩
  | o :: o2 :: r, 0, v, 1, w, h => by simp [q_p2, q_get] at h
  | o :: o2 :: r, 0, v, j + 2, w, h => by simp only [q_p2, q_get] at h; exact Or.inr ⟨by omega, by omega, h, by omega⟩
  | o :: r, 1, v, 0, w, h => by
    rw [show q_p2 (o :: r) 1 v = q_n2 o :: q_p2 r 0 v by cases r <;> rfl] at h
    simp only [q_get] at h
    have := q_n2_s h
    exact Or.inr ⟨by omega, by omega, this.1, fun q => this.2 q.2⟩
  | o :: r, 1, v, j + 1, w, h => by
    rw [show q_p2 (o :: r) 1 v = q_n2 o :: q_p2 r 0 v by cases r <;> rfl] at h
    simp only [q_get] at h
    rcases q_p2_g r 0 v j w h with ⟨h1, h2⟩ | ⟨h1, h1', h2, h3⟩
    · exact Or.inl ⟨by omega, h2⟩
    · exact Or.inr ⟨by omega, by omega, h2, by omega⟩
  | o :: r, i + 2, v, 0, w, h => by
    rw [show q_p2 (o :: r) (i + 2) v = o :: q_p2 r (i + 1) v by cases r <;> rfl] at h
    simp only [q_get] at h
    exact Or.inr ⟨by omega, by omega, h, by omega⟩
  | o :: r, i + 2, v, j + 1, w, h => by
    rw [show q_p2 (o :: r) (i + 2) v = o :: q_p2 r (i + 1) v by cases r <;> rfl] at h
    simp only [q_get] at h
    rcases q_p2_g r (i + 1) v j w h with ⟨h1, h2⟩ | ⟨h1, h1', h2, h3⟩
    · exact Or.inl ⟨by omega, h2⟩
    · exact Or.inr ⟨by omega, by omega, h2, fun q => h3 ⟨by omega, q.2⟩⟩
theorem q_lv.st1 {ls : Array Slot} {nL i : Nat} {lv : q_L} {v : Value} (h : lv_has ls nL ((i, v) :: (q_pr 0 lv).filter (fun q => !(q.1 == i) && !(q.1 + 1 == i && q.2.category == 2)))) : q_lv ls nL (q_p1 lv i v) := by
  refine ⟨h.1, h.2.1, fun q hq => ?_⟩
  obtain ⟨e, h1, h2⟩ := (q_pr_m _ 0 q.1 q.2).mp hq
  rw [Nat.zero_add] at h1
  rcases q_p1_g lv i v e q.2 h2 with ⟨g1, g2⟩ | ⟨g1, g2, g3⟩
  · exact h.2.2 q (by rw [show q = (i, v) by rw [← g2, ← g1, ← h1]]; exact List.mem_cons_self)
  · refine h.2.2 q (List.mem_cons_of_mem _ (List.mem_filter.mpr ⟨(q_pr_m lv 0 q.1 q.2).mpr ⟨e, by omega, g2⟩, ?_⟩))
    rw [h1]
    simp only [Bool.and_eq_true, Bool.not_eq_true', beq_eq_false_iff_ne, ne_eq, Bool.and_eq_false_iff]
    refine ⟨g1, ?_⟩
    by_cases g4 : e + 1 = i
    · exact Or.inr (fun q => g3 ⟨g4, q⟩)
    · exact Or.inl g4
theorem q_lv.st2 {ls : Array Slot} {nL i : Nat} {lv : q_L} {v : Value} (h : lv_has ls nL ((i, v) :: (q_pr 0 lv).filter (fun q => !(q.1 == i) && (!(q.1 == i + 1) && !(q.1 + 1 == i && q.2.category == 2))))) : q_lv ls nL (q_p2 lv i v) := by
  refine ⟨h.1, h.2.1, fun q hq => ?_⟩
  obtain ⟨e, h1, h2⟩ := (q_pr_m _ 0 q.1 q.2).mp hq
  rw [Nat.zero_add] at h1
  rcases q_p2_g lv i v e q.2 h2 with ⟨g1, g2⟩ | ⟨g1, g1', g2, g3⟩
  · exact h.2.2 q (by rw [show q = (i, v) by rw [← g2, ← g1, ← h1]]; exact List.mem_cons_self)
  · refine h.2.2 q (List.mem_cons_of_mem _ (List.mem_filter.mpr ⟨(q_pr_m lv 0 q.1 q.2).mpr ⟨e, by omega, g2⟩, ?_⟩))
    rw [h1]
    simp only [Bool.and_eq_true, Bool.not_eq_true', beq_eq_false_iff_ne, ne_eq, Bool.and_eq_false_iff]
    refine ⟨g1, g1', ?_⟩
    by_cases g4 : e + 1 = i
    · exact Or.inr (fun q => g3 ⟨g4, q⟩)
    · exact Or.inl g4
def q_ar : List Value → q_L
  | [] => []
  | .long x :: r => some (.long x) :: none :: q_ar r
  | .double x :: r => some (.double x) :: none :: q_ar r
  | v :: r => some v :: q_ar r
def q_pad : Nat → q_L → q_L
  | 0, _ => []
  | n + 1, [] => none :: q_pad n []
  | n + 1, o :: r => o :: q_pad n r
theorem q_pad_g : ∀ (n : Nat) (lv : q_L) (j : Nat) (v : Value), q_get (q_pad n lv) j = some v → q_get lv j = some v
  | 0, lv, j, v, h => by simp [q_pad, q_get] at h
  | n + 1, [], 0, v, h => by simp [q_pad, q_get] at h
  | n + 1, [], j + 1, v, h => by
    simp only [q_pad, q_get] at h
    have := q_pad_g n [] j v h
    simp [q_get] at this
  | n + 1, o :: r, 0, v, h => by simpa [q_pad, q_get] using h
  | n + 1, o :: r, j + 1, v, h => by
    simp only [q_pad, q_get] at h ⊢
    exact q_pad_g n r j v h
theorem q_ar_a : ∀ (vs : List Value) (i j : Nat) (v : Value), q_get (q_ar vs) j = some v → (i + j, v) ∈ lv_args i vs
  | [], i, j, v, h => by simp [q_ar, q_get] at h
  | w :: r, i, j, v, h => by
    have two : ∀ x : Value, x.category = 2 → q_get (some x :: none :: q_ar r) j = some v → (i + j, v) ∈ lv_args i (x :: r) := by
      intro x hx hj
      rw [show lv_args i (x :: r) = (i, x) :: lv_args (i + 2) r by simp [lv_args, hx]]
      match j, hj with
      | 0, hj => simp only [q_get] at hj; cases hj; exact List.mem_cons_self
      | 1, hj => simp [q_get] at hj
      | j + 2, hj =>
        simp only [q_get] at hj
        have := q_ar_a r (i + 2) j v hj
        rw [show i + (j + 2) = i + 2 + j by omega]
        exact List.mem_cons_of_mem _ this
    have one : ∀ x : Value, ¬ x.category = 2 → q_get (some x :: q_ar r) j = some v → (i + j, v) ∈ lv_args i (x :: r) := by
      intro x hx hj
      rw [show lv_args i (x :: r) = (i, x) :: lv_args (i + 1) r by simp [lv_args, hx]]
      match j, hj with
      | 0, hj => simp only [q_get] at hj; cases hj; exact List.mem_cons_self
      | j + 1, hj =>
        simp only [q_get] at hj
        have := q_ar_a r (i + 1) j v hj
        rw [show i + (j + 1) = i + 1 + j by omega]
        exact List.mem_cons_of_mem _ this
    cases w <;> first | exact two _ rfl h | exact one _ (by simp [Value.category]) h
end
section
/-! what a method's walk stands on, and what an instruction asks -/
def q_A (G : q_G) : Nat → Prop := fun q => G.2.2 ≤ q
def q_rm (d mc ms : Nat) : Room := { frames := d, cells := mc, slots := ms, locals := 64 * d }
def q_ws (M : q_MT) : List Cond := Cond.code (q_y M) (q_b M) (q_ln M) (q_r M) :: q_tbl
def q_NW (U : State) : Prop := (∀ w ∈ q_nst, va_Nw w U) ∧ va_AO "FontOutlines$Part" U
def q_Kx (G : q_G) (U : State) : Prop := va_K G.1 q_cl (q_tys G) U ∧ q_NW U ∧ G.2.2 ≤ U.heap.size
/-- the method's end: it returns v, the cells are h -/
def q_Qc (G : q_G) (Q : q_P) : Array Value → State → Outcome → State → Prop := fun _ st oc t => ∃ (v : Option Value) (h : q_H) (n : Nat), oc = .returned v ∧ q_rel G h n t.heap ∧ Q v h n ∧ va_F (q_A G) st t
def q_Call (G : q_G) (l : Launch) (M : q_MT) (d mc ms : Nat) (As : List Value) (h : q_H) (n : Nat) (Q : q_P) : Prop :=
  Met l (q_y M) (q_ws M) (q_rm d mc ms) (va_Pc As (fun U => q_rel G h n U.heap ∧ q_Kx G U)) (q_Qc G Q) mc ms (q_A G)
def q_Cx (G : q_G) (l : Launch) (M : q_MT) (p : Program) (s : State) (m : MethodId) (args : Array Value) (meth : Method) (c : Code) : Prop :=
  p.tables.exec = Jvm.exec ∧ c.code = q_b M ∧ meth.sig.returnType = q_r M ∧ c.maxLocals = q_ln M ∧ meth.locks = false ∧ s.vm.findClass (q_y M).cls = some m.cls ∧ (∀ w ∈ q_ws M, w.before args s = true) ∧ q_Kx G s ∧ meth.name = (q_y M).name ∧ q_ow[M.1]? = some (q_y M).cls
def q_Z (G : q_G) (l : Launch) (M : q_MT) (d mc ms : Nat) (Q : q_P) (pc : Nat) : q_C := fun lv st h n k sl =>
  ∀ (p : Program) (e : Env) (s : State) (m : MethodId) (args : Array Value) (below : List Frame) (meth : Method) (c : Code) (H : Heap) (locs : List Loc) (ls : Array Slot), q_Cx G l M p s m args meth c → q_rel G h n H → va_S (q_A G) s.heap H locs → q_lv ls (q_ln M) lv →
    W p l e (q_rm d mc ms) s m args below meth c H locs k sl (MQ below (q_Qc G Q) args s mc ms (q_A G)) (F0 m pc ls st)
-- the stack
def q_i (st : List Value) (f : Int32 → List Value → Prop) : Prop := match st with
  | .int x :: r => f x r
  | _ => False
def q_j (st : List Value) (f : Int64 → List Value → Prop) : Prop := match st with
  | .long x :: r => f x r
  | _ => False
def q_a (st : List Value) (f : Nat → List Value → Prop) : Prop := match st with
  | .ref x :: r => f x r
  | _ => False
def q_v (st : List Value) (f : Value → List Value → Prop) : Prop := match st with
  | x :: r => f x r
  | _ => False
/-- values popped: the last argument first -/
def q_ags : Nat → List Value → List Value → (List Value → List Value → Prop) → Prop
  | 0, as, st, f => f as st
  | n + 1, as, v :: r, f => q_ags n (v :: as) r f
  | _ + 1, _, [], _ => False
def q_cat : List Value → Nat
  | [] => 0
  | .long _ :: r => 2 + q_cat r
  | .double _ :: r => 2 + q_cat r
  | _ :: r => 1 + q_cat r
-- cells
def q_nth : List Value → Nat → (Value → Prop) → Prop
  | [], _, _ => False
  | v :: _, 0, f => f v
  | _ :: r, k + 1, f => q_nth r k f
def q_ob (h : q_H) (a ci : Nat) (f : List Value → Prop) : Prop := match h a with
  | some (.inr (c, fs)) => c = ci ∧ f fs
  | _ => False
def q_ry (h : q_H) (a : Nat) (f : Nat → vp_A → Prop) : Prop := match h a with
  | some (.inl (t, x)) => f t x
  | _ => False
/-- an array of ints, bytes or booleans -/
def q_ri (h : q_H) (a kd : Nat) (f : Nat → (Nat → Int32) → Prop) : Prop := match h a with
  | some (.inl (t, m, .inl g)) => t = kd ∧ f m g
  | _ => False
def q_rb (h : q_H) (a : Nat) (f : Nat → Nat → (Nat → Int32) → Prop) : Prop := match h a with
  | some (.inl (1, m, .inl g)) => f 1 m g
  | some (.inl (3, m, .inl g)) => f 3 m g
  | _ => False
def q_rl (h : q_H) (a : Nat) (f : Nat → (Nat → Int64) → Prop) : Prop := match h a with
  | some (.inl (2, m, .inr (.inl g))) => f m g
  | _ => False
def q_rq (h : q_H) (a : Nat) (f : Nat → (Nat → Option Nat) → Prop) : Prop := match h a with
  | some (.inl (4, m, .inr (.inr (.inr (.inr g))))) => f m g
  | _ => False
def q_fit (t : FieldType) (v : Value) : Prop := narrow t v = v ∧ fits t v = true
def q_li (lv : q_L) (i : Nat) (f : Int32 → Prop) : Prop := match q_get lv i with
  | some (.int x) => f x
  | _ => False
def q_lj (lv : q_L) (i : Nat) (f : Int64 → Prop) : Prop := match q_get lv i with
  | some (.long x) => f x
  | _ => False
def q_la (lv : q_L) (i : Nat) (f : Nat → Prop) : Prop := match q_get lv i with
  | some (.ref x) => f x
  | _ => False
def q_op {α : Type} (o : Option α) (f : α → Prop) : Prop := match o with
  | some x => f x
  | none => False
def q_br (c A B : Prop) : Prop := (c → A) ∧ (¬ c → B)
/-- a call: with d frames left for it -/
def q_dn (d : Nat) (f : Nat → Prop) : Prop := match d with
  | 0 => False
  | d + 1 => f d
/-- the first cells of an array of a kind -/
def q_new (kd : Nat) (m : Nat) : q_E := .inl (kd, m, if kd = 2 then .inr (.inl (fun _ => 0)) else if kd = 4 then .inr (.inr (.inr (.inr (fun _ => none)))) else .inl (fun _ => 0))
def q_atk : ArrayType → Option Nat
  | .int => some 0
  | .byte => some 1
  | .long => some 2
  | .boolean => some 3
  | _ => none
def q_dv : FieldType → Value
  | .int => .int 0
  | .boolean => .int 0
  | .byte => .int 0
  | .char => .int 0
  | .short => .int 0
  | .long => .long 0
  | t => defaultValue t
def q_zero (ci : Nat) : Nat → List Value
  | 0 => []
  | k + 1 => q_zero ci k ++ [q_dv (q_ty ci k)]
def q_jp (pc : Nat) (off : Int) (f : Nat → Prop) : Prop := 0 ≤ (pc : Int) + off ∧ f ((pc : Int) + off).toNat
def q_sl (pc : Nat) (x : Int32) (f : Nat → Prop) : Int → List Int → Prop
  | _, [] => True
  | j, off :: r => (x.toInt = j → q_jp pc off f) ∧ q_sl pc x f (j + 1) r
def q_ins (G : q_G) (l : Launch) (M : q_MT) (d mc ms : Nat) (Q : q_P) (K : Nat → q_C) (i : Instr) (pc t : Nat) (nx : q_C) : q_C := fun lv st h n k sl =>
  match i with
  | .iconst v => nx lv (.int (Int32.ofInt v) :: st) h n k sl
  | .bipush v => nx lv (.int (Int8.ofInt v).toInt32 :: st) h n k sl
  | .sipush v => nx lv (.int (Int16.ofInt v).toInt32 :: st) h n k sl
  | .lconst v => nx lv (.long (Int64.ofNat v.val) :: st) h n k sl
  | .ldc j => q_op (q_ki M.1 j) fun v => nx lv (.int v :: st) h n k sl
  | .ldc_w j => q_op (q_ki M.1 j) fun v => nx lv (.int v :: st) h n k sl
  | .ldc2_w j => q_op (q_kl M.1 j) fun v => nx lv (.long v :: st) h n k sl
  | .iload j => q_li lv j fun x => nx lv (.int x :: st) h n k sl
  | .iload_n j => q_li lv j.val fun x => nx lv (.int x :: st) h n k sl
  | .lload j => q_lj lv j fun x => nx lv (.long x :: st) h n k sl
  | .lload_n j => q_lj lv j.val fun x => nx lv (.long x :: st) h n k sl
  | .aload j => q_la lv j fun x => nx lv (.ref x :: st) h n k sl
  | .aload_n j => q_la lv j.val fun x => nx lv (.ref x :: st) h n k sl
  | .istore j => q_i st fun x r => nx (q_p1 lv j (.int x)) r h n k sl
  | .istore_n j => q_i st fun x r => nx (q_p1 lv j.val (.int x)) r h n k sl
  | .lstore j => q_j st fun x r => nx (q_p2 lv j (.long x)) r h n k sl
  | .lstore_n j => q_j st fun x r => nx (q_p2 lv j.val (.long x)) r h n k sl
  | .astore j => q_a st fun x r => nx (q_p1 lv j (.ref x)) r h n k sl
  | .astore_n j => q_a st fun x r => nx (q_p1 lv j.val (.ref x)) r h n k sl
  | .iinc j v => q_li lv j fun x => nx (q_p1 lv j (.int (x + Int32.ofInt v))) st h n k sl
  | .iadd => q_i st fun y r => q_i r fun x r => nx lv (.int (x + y) :: r) h n k sl
  | .isub => q_i st fun y r => q_i r fun x r => nx lv (.int (x - y) :: r) h n k sl
  | .imul => q_i st fun y r => q_i r fun x r => nx lv (.int (x * y) :: r) h n k sl
  | .iand => q_i st fun y r => q_i r fun x r => nx lv (.int (x &&& y) :: r) h n k sl
  | .ior => q_i st fun y r => q_i r fun x r => nx lv (.int (x ||| y) :: r) h n k sl
  | .idiv => q_i st fun y r => q_i r fun x r => ¬ y = 0 ∧ nx lv (.int (x / y) :: r) h n k sl
  | .irem => q_i st fun y r => q_i r fun x r => ¬ y = 0 ∧ nx lv (.int (x - x / y * y) :: r) h n k sl
  | .ineg => q_i st fun x r => nx lv (.int (-x) :: r) h n k sl
  | .ishl => q_i st fun y r => q_i r fun x r => nx lv (.int (x <<< (y &&& 31)) :: r) h n k sl
  | .ishr => q_i st fun y r => q_i r fun x r => nx lv (.int (x >>> (y &&& 31)) :: r) h n k sl
  | .iushr => q_i st fun y r => q_i r fun x r => nx lv (.int (x.toUInt32 >>> (y.toUInt32 &&& Int32.toUInt32 31)).toInt32 :: r) h n k sl
  | .ladd => q_j st fun y r => q_j r fun x r => nx lv (.long (x + y) :: r) h n k sl
  | .lsub => q_j st fun y r => q_j r fun x r => nx lv (.long (x - y) :: r) h n k sl
  | .lmul => q_j st fun y r => q_j r fun x r => nx lv (.long (x * y) :: r) h n k sl
  | .land => q_j st fun y r => q_j r fun x r => nx lv (.long (x &&& y) :: r) h n k sl
  | .lor => q_j st fun y r => q_j r fun x r => nx lv (.long (x ||| y) :: r) h n k sl
  | .ldiv => q_j st fun y r => q_j r fun x r => ¬ y = 0 ∧ nx lv (.long (x / y) :: r) h n k sl
  | .lrem => q_j st fun y r => q_j r fun x r => ¬ y = 0 ∧ nx lv (.long (x - x / y * y) :: r) h n k sl
  | .lneg => q_j st fun x r => nx lv (.long (-x) :: r) h n k sl
  | .lshl => q_i st fun y r => q_j r fun x r => nx lv (.long (x <<< (y.toInt64 &&& 63)) :: r) h n k sl
  | .lshr => q_i st fun y r => q_j r fun x r => nx lv (.long (x >>> (y.toInt64 &&& 63)) :: r) h n k sl
  | .lcmp => q_j st fun y r => q_j r fun x r => nx lv (.int (lg_cmp x y) :: r) h n k sl
  | .i2l => q_i st fun x r => nx lv (.long x.toInt64 :: r) h n k sl
  | .l2i => q_j st fun x r => nx lv (.int x.toInt32 :: r) h n k sl
  | .i2b => q_i st fun x r => nx lv (.int x.toInt8.toInt32 :: r) h n k sl
  | .i2s => q_i st fun x r => nx lv (.int x.toInt16.toInt32 :: r) h n k sl
  | .dup => q_v st fun v r => v.category = 1 ∧ nx lv (v :: v :: r) h n k sl
  | .dup2 => q_v st fun v r => q_v r fun w r => v.category = 1 ∧ w.category = 1 ∧ nx lv (v :: w :: v :: w :: r) h n k sl
  | .pop => q_v st fun v r => v.category = 1 ∧ nx lv r h n k sl
  | .pop2 => q_j st fun _ r => nx lv r h n k sl
  | .goto _ => K t lv st h n k sl
  | .ifCond .eq _ => q_i st fun x r => q_br (x = 0) (K t lv r h n k sl) (nx lv r h n k sl)
  | .ifCond .ne _ => q_i st fun x r => q_br (x = 0) (nx lv r h n k sl) (K t lv r h n k sl)
  | .ifCond .lt _ => q_i st fun x r => q_br (x < 0) (K t lv r h n k sl) (nx lv r h n k sl)
  | .ifCond .ge _ => q_i st fun x r => q_br (0 ≤ x) (K t lv r h n k sl) (nx lv r h n k sl)
  | .ifCond .gt _ => q_i st fun x r => q_br (0 < x) (K t lv r h n k sl) (nx lv r h n k sl)
  | .ifCond .le _ => q_i st fun x r => q_br (x ≤ 0) (K t lv r h n k sl) (nx lv r h n k sl)
  | .if_icmp .eq _ => q_i st fun y r => q_i r fun x r => q_br (x = y) (K t lv r h n k sl) (nx lv r h n k sl)
  | .if_icmp .ne _ => q_i st fun y r => q_i r fun x r => q_br (x = y) (nx lv r h n k sl) (K t lv r h n k sl)
  | .if_icmp .lt _ => q_i st fun y r => q_i r fun x r => q_br (x < y) (K t lv r h n k sl) (nx lv r h n k sl)
  | .if_icmp .ge _ => q_i st fun y r => q_i r fun x r => q_br (y ≤ x) (K t lv r h n k sl) (nx lv r h n k sl)
  | .if_icmp .gt _ => q_i st fun y r => q_i r fun x r => q_br (y < x) (K t lv r h n k sl) (nx lv r h n k sl)
  | .if_icmp .le _ => q_i st fun y r => q_i r fun x r => q_br (x ≤ y) (K t lv r h n k sl) (nx lv r h n k sl)
  | .getfield j => q_op (q_fl M.1 j) fun f => q_a st fun a r => q_ob h a f.1 fun fs => q_nth fs f.2.1 fun v => nx lv (v :: r) h n k sl
  | .putfield j => q_op (q_fl M.1 j) fun f => q_v st fun v r => q_a r fun a r => q_ob h a f.1 fun fs => f.2.1 < fs.length ∧ q_fit (q_ty f.1 f.2.1) v ∧ nx lv r (q_set h a (.inr (f.1, fs.set f.2.1 v))) n k sl
  | .iaload => q_i st fun i r => q_a r fun a r => q_ri h a 0 fun m g => vp_in i m ∧ nx lv (.int (g i.toNatClampNeg) :: r) h n k sl
  | .iastore => q_i st fun x r => q_i r fun i r => q_a r fun a r => q_ri h a 0 fun m g => vp_in i m ∧ nx lv r (q_set h a (.inl (0, m, .inl (upd g i.toNatClampNeg x)))) n k sl
  | .baload => q_i st fun i r => q_a r fun a r => q_rb h a fun _ m g => vp_in i m ∧ nx lv (.int (g i.toNatClampNeg) :: r) h n k sl
  | .bastore => q_i st fun x r => q_i r fun i r => q_a r fun a r => q_rb h a fun t m g => vp_in i m ∧ nx lv r (q_set h a (.inl (t, m, .inl (upd g i.toNatClampNeg (vp_nar (q_kind t) x))))) n k sl
  | .laload => q_i st fun i r => q_a r fun a r => q_rl h a fun m g => vp_in i m ∧ nx lv (.long (g i.toNatClampNeg) :: r) h n k sl
  | .lastore => q_j st fun x r => q_i r fun i r => q_a r fun a r => q_rl h a fun m g => vp_in i m ∧ nx lv r (q_set h a (.inl (2, m, .inr (.inl (vp_updL g i.toNatClampNeg x))))) n k sl
  | .aaload => q_i st fun i r => q_a r fun a r => q_rq h a fun m g => vp_in i m ∧ nx lv (va_rf (g i.toNatClampNeg) :: r) h n k sl
  | .aastore => q_a st fun v r => q_i r fun i r => q_a r fun a r => q_rq h a fun m g => vp_in i m ∧ q_ob h v 5 fun _ => nx lv r (q_set h a (.inl (4, m, .inr (.inr (.inr (.inr (va_up g i.toNatClampNeg (some v)))))))) n k sl
  | .arraylength => q_a st fun a r => q_ry h a fun t x => t < 5 ∧ nx lv (.int (Int32.ofNat x.1) :: r) h n k sl
  | .new j => q_op (q_cn M.1 j) fun ci => q_op (q_cl[ci]?) fun C => k + 1 ≤ mc ∧ sl + C.2.2 ≤ ms ∧ nx lv (.ref n :: st) (q_set h n (.inr (ci, q_zero ci C.2.2))) (n + 1) (k + 1) (sl + C.2.2)
  | .newarray ty => q_op (q_atk ty) fun kd => q_i st fun x r => ¬ x < 0 ∧ x.toNatClampNeg ≤ 1000000 ∧ k + 1 ≤ mc ∧ sl + x.toNatClampNeg ≤ ms ∧ nx lv (.ref n :: r) (q_set h n (q_new kd x.toNatClampNeg)) (n + 1) (k + 1) (sl + x.toNatClampNeg)
  | .invokevirtual j => q_op (q_ml M.1 j) fun y => y.2.2 = 0 ∧ q_ags y.1 [] st fun As r => q_a r fun b r => q_cat r ≤ 8 ∧ q_ob h b y.2.1.1 fun _ => q_dn d fun d' => ∃ mc' ms' : Nat, k + mc' ≤ mc ∧ sl + ms' ≤ ms ∧ q_Call G l y.2.1 d' mc' ms' (.ref b :: As) h n fun v h n => nx lv (v.toList ++ r) h n (k + mc') (sl + ms')
  | .invokespecial j => if q_oi M.1 j = true then q_a st fun _ r => q_cat r ≤ 8 ∧ q_dn d fun _ => nx lv r h n k sl
      else q_op (q_ml M.1 j) fun y => y.2.2 = 1 ∧ q_ags y.1 [] st fun As r => q_a r fun b r => q_cat r ≤ 8 ∧ q_dn d fun d' => ∃ mc' ms' : Nat, k + mc' ≤ mc ∧ sl + ms' ≤ ms ∧ q_Call G l y.2.1 d' mc' ms' (.ref b :: As) h n fun v h n => nx lv (v.toList ++ r) h n (k + mc') (sl + ms')
  | .anewarray j => q_i st fun x r => q_an M.1 j = true ∧ ¬ x < 0 ∧ x.toNatClampNeg ≤ 1000000 ∧ k + 1 ≤ mc ∧ sl + x.toNatClampNeg ≤ ms ∧ nx lv (.ref n :: r) (q_set h n (q_new 4 x.toNatClampNeg)) (n + 1) (k + 1) (sl + x.toNatClampNeg)
  | .tableswitch df lo hi offs => q_i st fun x r => (x.toInt < lo ∨ hi < x.toInt → q_jp pc df fun t => K t lv r h n k sl) ∧ q_sl pc x (fun t => K t lv r h n k sl) lo offs.toList ∧ (offs.size : Int) = hi - lo + 1
  | .invokestatic j => if q_ac M.1 j = true then
      q_i st fun nn r => q_i r fun dp r => q_a r fun a r => q_i r fun sp r => q_a r fun a0 r => q_cat r ≤ 8 ∧ q_ri h a0 1 fun n0 f => q_ri h a 1 fun n1 g => ¬ sp < 0 ∧ ¬ dp < 0 ∧ ¬ nn < 0 ∧ sp.toNatClampNeg + nn.toNatClampNeg ≤ n0 ∧ dp.toNatClampNeg + nn.toNatClampNeg ≤ n1 ∧ (∀ i, i < nn.toNatClampNeg → fits .byte (.int (f (sp.toNatClampNeg + i))) = true) ∧ q_dn d fun _ => nx lv r (q_set h a (.inl (1, n1, .inl (va_cpy f g sp.toNatClampNeg dp.toNatClampNeg nn.toNatClampNeg)))) n k sl
    else match q_mm M.1 j with
    | some b => q_i st fun y r => q_i r fun x r => q_cat r ≤ 8 ∧ k ≤ mc ∧ sl ≤ ms ∧ q_dn d fun _ => nx lv (.int (if b = true then (if x < y then y else x) else (if y < x then y else x)) :: r) h n k sl
    | none => q_op (q_ml M.1 j) fun y => y.2.2 = 2 ∧ q_ags y.1 [] st fun As r => q_cat r ≤ 8 ∧ q_dn d fun d' => ∃ mc' ms' : Nat, k + mc' ≤ mc ∧ sl + ms' ≤ ms ∧ q_Call G l y.2.1 d' mc' ms' As h n fun v h n => nx lv (v.toList ++ r) h n (k + mc') (sl + ms')
  | .ireturn => q_i st fun x r => r = [] ∧ q_op (q_r M) fun ty => narrow ty (.int x) = .int x ∧ k ≤ mc ∧ sl ≤ ms ∧ Q (some (.int x)) h n
  | .lreturn => q_j st fun x r => r = [] ∧ q_r M = some .long ∧ k ≤ mc ∧ sl ≤ ms ∧ Q (some (.long x)) h n
  | .areturn => q_a st fun x r => r = [] ∧ q_op (q_r M) fun ty => ((∃ n, ty = .object n) ∨ ∃ t, ty = .array t) ∧ k ≤ mc ∧ sl ≤ ms ∧ Q (some (.ref x)) h n
  | .return_ => st = [] ∧ q_r M = none ∧ k ≤ mc ∧ sl ≤ ms ∧ Q none h n
  | _ => False
end
section
/-! eliminations; what the link tables say; one row each for what changes cells -/
theorem q_i_s {st : List Value} {f : Int32 → List Value → Prop} (h : q_i st f) : ∃ x r, st = .int x :: r ∧ f x r := by
  unfold q_i at h; split at h
  · exact ⟨_, _, rfl, h⟩
  · exact h.elim
theorem q_j_s {st : List Value} {f : Int64 → List Value → Prop} (h : q_j st f) : ∃ x r, st = .long x :: r ∧ f x r := by
  unfold q_j at h; split at h
  · exact ⟨_, _, rfl, h⟩
  · exact h.elim
theorem q_a_s {st : List Value} {f : Nat → List Value → Prop} (h : q_a st f) : ∃ x r, st = .ref x :: r ∧ f x r := by
  unfold q_a at h; split at h
  · exact ⟨_, _, rfl, h⟩
  · exact h.elim
theorem q_v_s {st : List Value} {f : Value → List Value → Prop} (h : q_v st f) : ∃ x r, st = x :: r ∧ f x r := by
  unfold q_v at h; split at h
  · exact ⟨_, _, rfl, h⟩
  · exact h.elim
theorem q_li_s {lv : q_L} {i : Nat} {f : Int32 → Prop} (h : q_li lv i f) : ∃ x, q_get lv i = some (.int x) ∧ f x := by
  unfold q_li at h; split at h
  · exact ⟨_, by assumption, h⟩
  · exact h.elim
theorem q_lj_s {lv : q_L} {i : Nat} {f : Int64 → Prop} (h : q_lj lv i f) : ∃ x, q_get lv i = some (.long x) ∧ f x := by
  unfold q_lj at h; split at h
  · exact ⟨_, by assumption, h⟩
  · exact h.elim
theorem q_la_s {lv : q_L} {i : Nat} {f : Nat → Prop} (h : q_la lv i f) : ∃ x, q_get lv i = some (.ref x) ∧ f x := by
  unfold q_la at h; split at h
  · exact ⟨_, by assumption, h⟩
  · exact h.elim
theorem q_op_s {α : Type} {o : Option α} {f : α → Prop} (h : q_op o f) : ∃ x, o = some x ∧ f x := by
  unfold q_op at h; split at h
  · exact ⟨_, rfl, h⟩
  · exact h.elim
theorem q_ob_s {h : q_H} {a ci : Nat} {f : List Value → Prop} (hh : q_ob h a ci f) : ∃ fs, h a = some (.inr (ci, fs)) ∧ f fs := by
  unfold q_ob at hh; split at hh
  · obtain ⟨rfl, h2⟩ := hh; exact ⟨_, by assumption, h2⟩
  · exact hh.elim
theorem q_nth_s : ∀ {fs : List Value} {k : Nat} {f : Value → Prop}, q_nth fs k f → ∃ v, fs[k]? = some v ∧ f v
  | [], _, _, h => h.elim
  | v :: _, 0, _, h => ⟨v, rfl, h⟩
  | _ :: r, k + 1, f, h => by
    obtain ⟨v, h1, h2⟩ := q_nth_s (fs := r) (k := k) (f := f) h
    exact ⟨v, by simpa using h1, h2⟩
theorem q_ry_s {h : q_H} {a : Nat} {f : Nat → vp_A → Prop} (hh : q_ry h a f) : ∃ t x, h a = some (.inl (t, x)) ∧ f t x := by
  unfold q_ry at hh; split at hh
  · exact ⟨_, _, by assumption, hh⟩
  · exact hh.elim
theorem q_ri_s {h : q_H} {a kd : Nat} {f : Nat → (Nat → Int32) → Prop} (hh : q_ri h a kd f) : ∃ m g, h a = some (.inl (kd, m, .inl g)) ∧ f m g := by
  unfold q_ri at hh; split at hh
  · obtain ⟨rfl, h2⟩ := hh; exact ⟨_, _, by assumption, h2⟩
  · exact hh.elim
theorem q_rb_s {h : q_H} {a : Nat} {f : Nat → Nat → (Nat → Int32) → Prop} (hh : q_rb h a f) : ∃ t m g, h a = some (.inl (t, m, .inl g)) ∧ (t = 1 ∨ t = 3) ∧ f t m g := by
  unfold q_rb at hh; split at hh
  · exact ⟨_, _, _, by assumption, Or.inl rfl, hh⟩
  · exact ⟨_, _, _, by assumption, Or.inr rfl, hh⟩
  · exact hh.elim
theorem q_rl_s {h : q_H} {a : Nat} {f : Nat → (Nat → Int64) → Prop} (hh : q_rl h a f) : ∃ m g, h a = some (.inl (2, m, .inr (.inl g))) ∧ f m g := by
  unfold q_rl at hh; split at hh
  · exact ⟨_, _, by assumption, hh⟩
  · exact hh.elim
theorem q_rq_s {h : q_H} {a : Nat} {f : Nat → (Nat → Option Nat) → Prop} (hh : q_rq h a f) : ∃ m g, h a = some (.inl (4, m, .inr (.inr (.inr (.inr g))))) ∧ f m g := by
  unfold q_rq at hh; split at hh
  · exact ⟨_, _, by assumption, hh⟩
  · exact hh.elim
theorem q_dn_s {d : Nat} {f : Nat → Prop} (h : q_dn d f) : ∃ d', d = d' + 1 ∧ f d' := by
  unfold q_dn at h; split at h
  · exact h.elim
  · exact ⟨_, rfl, h⟩
theorem q_ags_s : ∀ {n : Nat} {as st : List Value} {f : List Value → List Value → Prop}, q_ags n as st f → ∃ bs r, bs.length = n ∧ st = bs.reverse ++ r ∧ f (bs ++ as) r
  | 0, as, st, f, h => ⟨[], st, rfl, rfl, h⟩
  | n + 1, as, v :: r, f, h => by
    obtain ⟨bs, r', h1, h2, h3⟩ := q_ags_s (n := n) (as := v :: as) (st := r) (f := f) h
    exact ⟨bs ++ [v], r', by simp [h1], by simp [h2], by simpa using h3⟩
  | n + 1, as, [], f, h => h.elim
theorem q_cat_e : ∀ st : List Value, (st.map fun v => v.category).sum = q_cat st
  | [] => rfl
  | v :: r => by
    have ih := q_cat_e r
    rw [List.map_cons, List.sum_cons, ih]
    cases v <;> rfl
-- links
theorem q_find {α : Type} {L : List (Nat × Nat × α)} {w j : Nat} {x : Nat × Nat × α} (h : L.find? (fun x => x.1 == w && x.2.1 == j) = some x) : x ∈ L ∧ x.1 = w ∧ x.2.1 = j := by
  have h1 := List.find?_some h
  have h2 := List.mem_of_find?_eq_some h
  simp only [Bool.and_eq_true, beq_iff_eq] at h1
  exact ⟨h2, h1.1, h1.2⟩
theorem q_fl_ok {w j ci k : Nat} {b : Bool} {o : String} (ho : q_ow[w]? = some o) (h : q_fl w j = some (ci, k, b)) : ∃ C T N, q_cl[ci]? = some (C, T, N) ∧ k < N ∧ (b = false → Cond.fieldLink o j C (T k).2.1 (T k).2.2.1 ∈ q_tbl) ∧ (b = true → Cond.fieldLinkNest o j C (T k).2.1 (T k).2.2.1 "FontOutlines" ∈ q_nst) := by
  unfold q_fl at h
  cases hf : q_flL.find? (fun x => x.1 == w && x.2.1 == j) with
  | none => rw [hf] at h; cases h
  | some x =>
    rw [hf] at h
    obtain ⟨hm, e1, e2⟩ := q_find hf
    have hk := List.all_eq_true.mp q_flL_ok x hm
    obtain ⟨x1, x2, x3, x4, x5, x6⟩ := x
    simp only [Option.map_some, Option.some.injEq, Prod.mk.injEq] at h
    obtain ⟨h1, h2, h3⟩ := h
    dsimp only at e1 e2
    subst e1; subst e2; subst h1; subst h2; subst h3
    unfold q_okF at hk
    dsimp only at hk
    rw [ho] at hk
    cases hc : q_cl[x3]? with
    | none => rw [hc] at hk; cases hk
    | some c =>
      obtain ⟨C, T, N⟩ := c
      rw [hc] at hk
      simp only [Bool.and_eq_true, decide_eq_true_eq] at hk
      refine ⟨C, T, N, rfl, hk.1, fun hb => ?_, fun hb => ?_⟩
      · subst hb; exact q_has_in hk.2
      · subst hb; exact q_hasN_in rfl hk.2
theorem q_ki_ok {w j : Nat} {v : Int32} {o : String} (ho : q_ow[w]? = some o) (h : q_ki w j = some v) : Cond.constant o j v ∈ q_tbl := by
  unfold q_ki at h
  cases hf : q_kiL.find? (fun x => x.1 == w && x.2.1 == j) with
  | none => rw [hf] at h; cases h
  | some x =>
    rw [hf] at h
    obtain ⟨hm, e1, e2⟩ := q_find hf
    have hk := List.all_eq_true.mp q_kiL_ok x hm
    obtain ⟨x1, x2, x3, x4⟩ := x
    simp only [Option.map_some, Option.some.injEq] at h
    dsimp only at e1 e2
    subst e1; subst e2; subst h
    dsimp only at hk
    rw [ho] at hk
    exact q_has_in hk
theorem q_kl_ok {w j : Nat} {v : Int64} {o : String} (ho : q_ow[w]? = some o) (h : q_kl w j = some v) : Cond.constantLong o j v ∈ q_tbl := by
  unfold q_kl at h
  cases hf : q_klL.find? (fun x => x.1 == w && x.2.1 == j) with
  | none => rw [hf] at h; cases h
  | some x =>
    rw [hf] at h
    obtain ⟨hm, e1, e2⟩ := q_find hf
    have hk := List.all_eq_true.mp q_klL_ok x hm
    obtain ⟨x1, x2, x3, x4⟩ := x
    simp only [Option.map_some, Option.some.injEq] at h
    dsimp only at e1 e2
    subst e1; subst e2; subst h
    dsimp only at hk
    rw [ho] at hk
    exact q_has_in hk
theorem q_cn_ok {w j ci : Nat} {o : String} {C : String} {T : u_T} {N : Nat} (ho : q_ow[w]? = some o) (h : q_cn w j = some ci) (hc : q_cl[ci]? = some (C, T, N)) : Cond.classLink o j C ∈ q_tbl ∧ Cond.instantiable C N ∈ q_tbl ∧ Cond.initialized C ∈ q_tbl := by
  unfold q_cn at h
  cases hf : q_cnL.find? (fun x => x.1 == w && x.2.1 == j) with
  | none => rw [hf] at h; cases h
  | some x =>
    rw [hf] at h
    obtain ⟨hm, e1, e2⟩ := q_find hf
    have hk := List.all_eq_true.mp q_cnL_ok x hm
    obtain ⟨x1, x2, x3, x4, x5, x6⟩ := x
    simp only [Option.map_some, Option.some.injEq] at h
    dsimp only at e1 e2
    subst e1; subst e2; subst h
    unfold q_okN at hk
    dsimp only at hk
    rw [ho, hc] at hk
    simp only [Bool.and_eq_true] at hk
    exact ⟨q_has_in hk.1.1, q_has_in hk.1.2, q_has_in hk.2⟩
theorem q_oi_ok {w j : Nat} {o : String} (ho : q_ow[w]? = some o) (h : q_oi w j = true) : Cond.methodLink o j Lib.objectInit ∈ q_tbl := by
  unfold q_oi at h
  obtain ⟨x, hm, hx⟩ := List.any_eq_true.mp h
  have hk := List.all_eq_true.mp q_oiL_ok x hm
  obtain ⟨x1, x2, x3⟩ := x
  simp only [Bool.and_eq_true, beq_iff_eq] at hx
  obtain ⟨rfl, rfl⟩ := hx
  dsimp only at hk
  rw [ho] at hk
  exact q_has_in hk
theorem q_mm_ok {w j : Nat} {b : Bool} {o : String} (ho : q_ow[w]? = some o) (h : q_mm w j = some b) : Cond.methodLink o j (if b = true then Lib.Math.max.name else Lib.Math.min.name) ∈ q_tbl := by
  unfold q_mm at h
  cases hf : q_mmL.find? (fun x => x.1 == w && x.2.1 == j) with
  | none => rw [hf] at h; cases h
  | some x =>
    rw [hf] at h
    obtain ⟨hm, e1, e2⟩ := q_find hf
    have hk := List.all_eq_true.mp q_mmL_ok x hm
    obtain ⟨x1, x2, x3, x4⟩ := x
    simp only [Option.map_some, Option.some.injEq] at h
    dsimp only at e1 e2
    subst e1; subst e2; subst h
    dsimp only at hk
    rw [ho] at hk
    exact q_has_in hk
def q_kw (o : String) (j : Nat) (y : MethodName) : Nat → Prop
  | 0 => Cond.methodLink o j y ∈ q_tbl ∧ Cond.instanceMethod y ∈ q_tbl ∧ Cond.selects y.cls y y ∈ q_tbl ∧ Cond.initialized y.cls ∈ q_tbl
  | 1 => Cond.methodLink o j y ∈ q_tbl ∧ Cond.instanceMethod y ∈ q_tbl ∧ Cond.initialized y.cls ∈ q_tbl ∧ y.name = "<init>"
  | _ => Cond.methodLink o j y ∈ q_tbl ∧ Cond.static y ∈ q_tbl ∧ Cond.initialized y.cls ∈ q_tbl
theorem q_ml_ok {w j na kd : Nat} {M : q_MT} {o : String} (ho : q_ow[w]? = some o) (h : q_ml w j = some (na, M, kd)) : q_okM M = true ∧ (parseMethodDescriptor (q_y M).desc).map (fun d => d.parameters.length) = some na ∧ q_kw o j (q_y M) kd ∧ (kd = 1 → q_r M = none) := by
  unfold q_ml at h
  cases hf : q_mlL.find? (fun x => x.1 == w && x.2.1 == j) with
  | none => rw [hf] at h; cases h
  | some x =>
    rw [hf] at h
    obtain ⟨hm, e1, e2⟩ := q_find hf
    have hk := List.all_eq_true.mp q_mlL_ok x hm
    obtain ⟨x1, x2, x3, x4, x5, x6⟩ := x
    simp only [Option.map_some, Option.some.injEq, Prod.mk.injEq] at h
    obtain ⟨h1, h2, h3⟩ := h
    dsimp only at e1 e2
    subst e1; subst e2; subst h1; subst h2; subst h3
    unfold q_okL at hk
    dsimp only at hk
    rw [ho] at hk
    simp only [Bool.and_eq_true, decide_eq_true_eq] at hk
    obtain ⟨⟨hk1, hk2⟩, hk3⟩ := hk
    refine ⟨hk1, hk2, ?_⟩
    match x5, hk3 with
    | 0, hk3 =>
      have := q_hasL_in _ _ hk3
      exact ⟨⟨this _ (by simp), this _ (by simp), this _ (by simp), this _ (by simp)⟩, fun h => by cases h⟩
    | 1, hk3 =>
      simp only [Bool.and_eq_true, decide_eq_true_eq] at hk3
      have := q_hasL_in _ _ hk3.1.1
      exact ⟨⟨this _ (by simp), this _ (by simp), this _ (by simp), hk3.1.2⟩, fun _ => hk3.2⟩
    | k + 2, hk3 =>
      have := q_hasL_in _ _ hk3
      exact ⟨⟨this _ (by simp), this _ (by simp), this _ (by simp)⟩, fun h => by cases h⟩
theorem q_okM_s {M : q_MT} (h : q_okM M = true) : Cond.code (q_y M) (q_b M) (q_ln M) (q_r M) ∈ q_tbl ∧ q_ow[M.1]? = some (q_y M).cls ∧ plainName (q_y M).cls = true ∧ q_ln M + 19 ≤ 64 ∧ (q_y M).cls ≠ "java/lang/invoke/MethodHandle" ∧ (q_y M).cls ≠ "java/lang/invoke/VarHandle" := by
  unfold q_okM at h
  simp only [Bool.and_eq_true, decide_eq_true_eq] at h
  exact ⟨q_isC_in h.1.1.1.1, h.1.1.1.2, h.1.1.2, h.1.2, h.2.1, h.2.2⟩
theorem q_tbl_good : ∀ w ∈ q_tbl, (w.onTables && w.keeps) = true ∨ ∃ ty, w = .arrayClass ty := fun w h => good_of_word (List.mem_filter.mp h).2
theorem q_good {M M' : q_MT} (h : Cond.code (q_y M') (q_b M') (q_ln M') (q_r M') ∈ q_tbl) : GoodIn (q_ws M) (q_ws M') := by
  intro w hw
  have hq : w ∈ q_tbl := by
    rcases List.mem_cons.mp hw with rfl | hw
    · exact h
    · exact hw
  exact ⟨List.mem_cons_of_mem _ hq, q_tbl_good w hq⟩
theorem q_NW.same {u U : State} (h : u.vm = U.vm) (hN : q_NW u) : q_NW U := by
  refine ⟨fun w hw => ?_, va_AO.moved (by rw [h]; exact Vm.Alike.refl _) hN.2⟩
  have h1 := hN.1 w hw
  have h2 := (List.mem_filter.mp hw).2
  cases w <;> first | exact va_Nw.same rfl h h1 | cases h2
theorem q_NW.warm {s U : State} (h : s.WarmedH U.vm) (hN : q_NW s) : q_NW U := by
  refine ⟨fun w hw => ?_, va_AO.moved h.alike hN.2⟩
  have h1 := hN.1 w hw
  have h2 := (List.mem_filter.mp hw).2
  cases w <;> first | exact va_Nw.warmF h h1 | cases h2
theorem q_an_ok {w j : Nat} {o : String} (ho : q_ow[w]? = some o) (h : q_an w j = true) : Cond.classLink o j "FontOutlines$Part" ∈ q_tbl := by
  unfold q_an at h
  obtain ⟨x, hm, hx⟩ := List.any_eq_true.mp h
  have hk := List.all_eq_true.mp q_anL_ok x hm
  obtain ⟨x1, x2, x3⟩ := x
  simp only [Bool.and_eq_true, beq_iff_eq] at hx
  obtain ⟨rfl, rfl⟩ := hx
  dsimp only at hk
  rw [ho] at hk
  exact q_has_in hk
theorem q_ac_ok {w j : Nat} {o : String} (ho : q_ow[w]? = some o) (h : q_ac w j = true) : Cond.methodLink o j arraycopyName ∈ q_tbl := by
  unfold q_ac at h
  obtain ⟨x, hm, hx⟩ := List.any_eq_true.mp h
  have hk := List.all_eq_true.mp q_acL_ok x hm
  obtain ⟨x1, x2, x3⟩ := x
  simp only [Bool.and_eq_true, beq_iff_eq] at hx
  obtain ⟨rfl, rfl⟩ := hx
  dsimp only at hk
  rw [ho] at hk
  exact q_has_in hk
end
section
/-! what my machine says holds of the real one -/
section Q6
variable {p : Program} {l : Launch} {e : Env} {R : Room} {s : State} {m : MethodId} {args : Array Value} {below : List Frame} {meth : Method} {c : Code} {H : Heap} {locs : List Loc} {cells slots : Nat} {Q : State → Prop}
variable {cc : ByteArray} {pc : Nat} {ls : Array Slot} {rest : List Value} {G : q_G} {h : q_H} {n a : Nat} {H0 : Heap}
theorem q_rel.one (r : q_rel G h n H) {x : q_E} (ha : h a = some x) : va_P G.1 q_cl [(a, q_e G x)] H := by
  intro k q hk
  cases k with
  | zero => cases hk; exact (r.2 a x ha).2
  | succ k => simp at hk
theorem q_tys_at (G : q_G) {t : Nat} (ht : t < 5) : (q_tys G)[t]? = some (G.2.1 t, q_kind t) := by
  match t, ht with
  | 0, _ => rfl
  | 1, _ => rfl
  | 2, _ => rfl
  | 3, _ => rfl
  | 4, _ => rfl
/-- a field is written: the cell, the size, the rest -/
theorem q_put (hexec : p.tables.exec = Jvm.exec) (hb : c.code = cc) {own C : String} {T : u_T} {N ci index : Nat} {Ts : List Cond} (hts : ∀ w ∈ Ts, w.before args s = true) (hTs : ∀ w ∈ q_tbl, w ∈ Ts) (hown : s.vm.findClass own = some m.cls) (hK : va_K G.1 q_cl (q_tys G) s) (hNW : q_NW s) (r : q_rel G h n H) (hS : va_S (q_A G) H0 H locs) {fs : List Value} (ha : h a = some (.inr (ci, fs))) (hc : q_cl[ci]? = some (C, T, N)) {k : Nat} (hk : k < N) {b : Bool}
    (hl0 : b = false → Cond.fieldLink own index C (T k).2.1 (T k).2.2.1 ∈ q_tbl) (hl1 : b = true → Cond.fieldLinkNest own index C (T k).2.1 (T k).2.2.1 "FontOutlines" ∈ q_nst) (hfin : (T k).2.2.2 = true → b = false ∧ meth.name = "<init>" ∧ own = C) {v : Value} (hv : q_fit (q_ty ci k) v) (hl : k < fs.length) (hdg : decode cc pc = .ok (.putfield index, 3))
    (kk : ∀ (H1 : Heap) (locs1 : List Loc), q_rel G (q_set h a (.inr (ci, fs.set k v))) n H1 → va_S (q_A G) H0 H1 locs1 → W p l e R s m args below meth c H1 locs1 cells slots Q (F0 m (pc + 3) ls rest)) : W p l e R s m args below meth c H locs cells slots Q (F0 m pc ls (v :: .ref a :: rest)) := by
  obtain ⟨hin0, hty, hnm, hdc⟩ := q_cok ci C T N hc
  have hin : ∀ w ∈ u_ws C T N, w ∈ Ts := fun w hw => hTs w (hin0 w hw)
  have hap := va_apart (own := own) hts hin (q_ty ci) hty hnm hK hc
  have hA : q_A G a := (r.2 a _ ha).1
  obtain ⟨rr, h1, cell, q1, q2, q3, q4⟩ := (r.2 a _ ha).2
  have hr : rr = (C, T, N) := Option.some.inj (h1.symm.trans hc)
  subst hr
  obtain ⟨hSl, hfc, kC, hkC, hkind⟩ := hK.1 ci _ hc
  obtain ⟨cf, kf, fi, f, hi, hsl⟩ := hSl k hk
  have hi2 : s.fieldFound? C (T k).2.1 (T k).2.2.1 = some (cf, kf, fi, f) := by rw [← hdc k hk]; exact hi
  have hst := (u_facts hfc hkC (u_lays hts hin hk) hi).1
  have hlt : f.slot < cell.slots.size := by rw [hsl]; exact k2_hasslot (q4 k hk)
  have fin : ∀ H' : Heap, H'[a]? = some (cell.setSlot f.slot v) → H'.size = H.size → (∀ q, q ≠ a → H'[q]? = H[q]?) → W p l e R s m args below meth c H' (locs ++ [⟨a, f.slot⟩]) cells slots Q (F0 m (pc + 3) ls rest) := by
    intro H' e1 e2 e3
    refine kk H' _ (r.upd ha ?_ e2 e3) (hS.put e2 e3 hA)
    rw [hsl] at e1
    exact ⟨_, hc, t_OB.to (V := updV (vp_V fs) k v) ⟨_, e1, q2, q3, t_set q4 hap hk v⟩ (fun j _ => vp_updV_set hl v j)⟩
  have hlay := hts _ (hin _ (u_in_lay hk))
  unfold u_lay at hlay
  by_cases hf : (T k).2.2.2 = true
  · obtain ⟨hb0, hinit, hoC⟩ := hfin hf
    rw [if_pos hf] at hlay
    have hcf : m.cls = cf := by
      obtain ⟨_, _, c', _, _, _, -, -, hf', -, -, -, hown2, -⟩ := Cond.laysFinal_spec hlay
      have e1 : c' = cf := by have := hi.symm.trans hf'; simp at this; exact this.1.symm
      rw [hdc k hk, ← hoC] at hown2
      rw [← e1]; exact Option.some.inj (hown.symm.trans hown2)
    have h6 := u_fits hfc hkC hkind (Or.inr hlay) hi (hty k hk) hv.1 hv.2
    exact W.putFinK hexec hb hown (hts _ (hTs _ (hl0 hb0))) hi2 hst hcf hinit (by rw [q2]; exact h6) q1 q3 hlt rfl rfl hdg fin
  · rw [if_neg hf] at hlay
    have h6 := u_store hfc hkC hkind hlay hi (hty k hk) hv.1 hv.2
    cases hbb : b with
    | false => exact W.putK hexec hb (f := f) ⟨hown, hts _ (hTs _ (hl0 hbb)), ⟨_, _, _, hi2⟩, hst⟩ (by rw [q2]; exact h6) q1 q3 hlt rfl rfl hdg fin
    | true => exact va_WputK hexec hb (f := f) hown (va_Nw.use rfl (hNW.1 _ (hl1 hbb))) hi2 hst (by rw [q2]; exact h6) q1 q3 hlt rfl rfl hdg fin
theorem q_getf (hexec : p.tables.exec = Jvm.exec) (hb : c.code = cc) {own C : String} {T : u_T} {N ci index : Nat} {Ts : List Cond} (hts : ∀ w ∈ Ts, w.before args s = true) (hTs : ∀ w ∈ q_tbl, w ∈ Ts) (hown : s.vm.findClass own = some m.cls) (hK : va_K G.1 q_cl (q_tys G) s) (hNW : q_NW s) (r : q_rel G h n H) {fs : List Value} (ha : h a = some (.inr (ci, fs))) (hc : q_cl[ci]? = some (C, T, N)) {k : Nat} (hk : k < N) {b : Bool}
    (hl0 : b = false → Cond.fieldLink own index C (T k).2.1 (T k).2.2.1 ∈ q_tbl) (hl1 : b = true → Cond.fieldLinkNest own index C (T k).2.1 (T k).2.2.1 "FontOutlines" ∈ q_nst) {v : Value} (hv : fs[k]? = some v) (hdg : decode cc pc = .ok (.getfield index, 3))
    (kk : W p l e R s m args below meth c H locs cells slots Q (F0 m (pc + 3) ls (v :: rest))) : W p l e R s m args below meth c H locs cells slots Q (F0 m pc ls (.ref a :: rest)) := by
  obtain ⟨hin0, hty, hnm, hdc⟩ := q_cok ci C T N hc
  have hin : ∀ w ∈ u_ws C T N, w ∈ Ts := fun w hw => hTs w (hin0 w hw)
  cases hbb : b with
  | false => exact va_get (D := G.1) hexec hb hts hin hown hK (r.one ha) 0 rfl hc k hk (hts _ (hTs _ (hl0 hbb))) (fun x hx => by rw [← hdc k hk]; exact hx) hv hdg kk
  | true => exact va_getN (D := G.1) hexec hb hts hin hown hK (r.one ha) 0 rfl hc k hk (va_Nw.use rfl (hNW.1 _ (hl1 hbb))) (fun x hx => by rw [← hdc k hk]; exact hx) hv hdg kk
theorem q_cellI {t : Nat} {cA : ClassId} {mm : Nat} {g : Nat → Int32} {j : Nat} {x : Int32} (H1 : Heap) (e1 : H1[a]? = some ((vp_cell cA (mm, .inl g)).setSlot j (.int x))) : H1[a]? = some (vp_cell cA (mm, .inl (upd g j x))) := by
  rw [e1, vp_cell_i, vp_cell_i, arrV_store]
  congr 2
  funext q
  by_cases hq : q = j
  · subst hq; simp [updV, upd]
  · simp [updV, upd, hq]
theorem q_iast (hexec : p.tables.exec = Jvm.exec) (hb : c.code = cc) (hK : va_K G.1 q_cl (q_tys G) s) (r : q_rel G h n H) (hS : va_S (q_A G) H0 H locs) {mm : Nat} {g : Nat → Int32} (ha : h a = some (.inl (0, mm, .inl g))) {i x : Int32} (hin : vp_in i mm) (hdg : decode cc pc = .ok (.iastore, 1))
    (kk : ∀ (H1 : Heap) (locs1 : List Loc), q_rel G (q_set h a (.inl (0, mm, .inl (upd g i.toNatClampNeg x)))) n H1 → va_S (q_A G) H0 H1 locs1 → W p l e R s m args below meth c H1 locs1 cells slots Q (F0 m (pc + 1) ls rest)) : W p l e R s m args below meth c H locs cells slots Q (F0 m pc ls (.int x :: .int i :: .ref a :: rest)) := by
  have hat := (r.2 a _ ha).2
  refine W.iast hexec hb hat ((hK.2 0 _ rfl).1 mm (fun j => .int (g j))) (fun q => by cases q) (by show ¬ (i < 0 ∨ (arrV _ _ _).slots.size ≤ _); rw [arrV_size]; exact hin) rfl rfl hdg fun H1 e1 z oq => ?_
  exact kk H1 _ (r.upd ha (q_cellI (t := 0) H1 e1) z oq) (hS.put z oq (r.2 a _ ha).1)
theorem q_bast (hexec : p.tables.exec = Jvm.exec) (hb : c.code = cc) (hK : va_K G.1 q_cl (q_tys G) s) (r : q_rel G h n H) (hS : va_S (q_A G) H0 H locs) {t mm : Nat} (ht : t = 1 ∨ t = 3) {g : Nat → Int32} (ha : h a = some (.inl (t, mm, .inl g))) {i x : Int32} (hin : vp_in i mm) (hdg : decode cc pc = .ok (.bastore, 1))
    (kk : ∀ (H1 : Heap) (locs1 : List Loc), q_rel G (q_set h a (.inl (t, mm, .inl (upd g i.toNatClampNeg (vp_nar (q_kind t) x))))) n H1 → va_S (q_A G) H0 H1 locs1 → W p l e R s m args below meth c H1 locs1 cells slots Q (F0 m (pc + 1) ls rest)) : W p l e R s m args below meth c H locs cells slots Q (F0 m pc ls (.int x :: .int i :: .ref a :: rest)) := by
  have hat := (r.2 a _ ha).2
  rcases ht with rfl | rfl
  · refine W.bast hexec hb hat ((hK.2 1 _ rfl).1 mm (fun j => .int (g j))) (fun q => by cases q) (by show ¬ (i < 0 ∨ (arrV _ _ _).slots.size ≤ _); rw [arrV_size]; exact hin) rfl rfl hdg fun H1 e1 z oq => ?_
    exact kk H1 _ (r.upd ha (q_cellI (t := 1) H1 e1) z oq) (hS.put z oq (r.2 a _ ha).1)
  · refine W.zast hexec hb hat ((hK.2 3 _ rfl).1 mm (fun j => .int (g j))) (fun q => by cases q) (by show ¬ (i < 0 ∨ (arrV _ _ _).slots.size ≤ _); rw [arrV_size]; exact hin) rfl rfl hdg fun H1 e1 z oq => ?_
    exact kk H1 _ (r.upd ha (q_cellI (t := 3) H1 e1) z oq) (hS.put z oq (r.2 a _ ha).1)
theorem q_last (hexec : p.tables.exec = Jvm.exec) (hb : c.code = cc) (hK : va_K G.1 q_cl (q_tys G) s) (r : q_rel G h n H) (hS : va_S (q_A G) H0 H locs) {mm : Nat} {g : Nat → Int64} (ha : h a = some (.inl (2, mm, .inr (.inl g)))) {i : Int32} {x : Int64} (hin : vp_in i mm) (hdg : decode cc pc = .ok (.lastore, 1))
    (kk : ∀ (H1 : Heap) (locs1 : List Loc), q_rel G (q_set h a (.inl (2, mm, .inr (.inl (vp_updL g i.toNatClampNeg x))))) n H1 → va_S (q_A G) H0 H1 locs1 → W p l e R s m args below meth c H1 locs1 cells slots Q (F0 m (pc + 1) ls rest)) : W p l e R s m args below meth c H locs cells slots Q (F0 m pc ls (.long x :: .int i :: .ref a :: rest)) := by
  have hat := (r.2 a _ ha).2
  refine W.last hexec hb hat ((hK.2 2 _ rfl).1 mm (fun j => .long (g j))) (fun q => by cases q) (by show ¬ (i < 0 ∨ (arrV _ _ _).slots.size ≤ _); rw [arrV_size]; exact hin) rfl rfl hdg fun H1 e1 z oq => ?_
  refine kk H1 _ (r.upd ha ?_ z oq) (hS.put z oq (r.2 a _ ha).1)
  show H1[a]? = some (vp_cell _ _)
  rw [e1]
  show some ((vp_cell _ _).setSlot _ _) = _
  rw [vp_cell_l, vp_cell_l, arrV_store]
  congr 2
  funext q
  by_cases hq : q = i.toNatClampNeg
  · subst hq; simp [updV, vp_updL]
  · simp [updV, vp_updL, hq]
theorem q_aast (hexec : p.tables.exec = Jvm.exec) (hb : c.code = cc) (hK : va_K G.1 q_cl (q_tys G) s) (r : q_rel G h n H) (hS : va_S (q_A G) H0 H locs) {mm v : Nat} {vs : List Value} {g : Nat → Option Nat} (ha : h a = some (.inl (4, mm, .inr (.inr (.inr (.inr g)))))) (hv : h v = some (.inr (5, vs))) {i : Int32} (hin : vp_in i mm) (hdg : decode cc pc = .ok (.aastore, 1))
    (kk : ∀ (H1 : Heap) (locs1 : List Loc), q_rel G (q_set h a (.inl (4, mm, .inr (.inr (.inr (.inr (va_up g i.toNatClampNeg (some v)))))))) n H1 → va_S (q_A G) H0 H1 locs1 → W p l e R s m args below meth c H1 locs1 cells slots Q (F0 m (pc + 1) ls rest)) : W p l e R s m args below meth c H locs cells slots Q (F0 m pc ls (.ref v :: .int i :: .ref a :: rest)) := by
  have hlt : i.toNatClampNeg < mm := Nat.not_le.mp fun q => hin (Or.inr q)
  have h0 : ¬ i < 0 := fun q => hin (Or.inl q)
  have hat := (r.2 a _ ha).2
  obtain ⟨r', hr', cellV, g1, g2, g3, -⟩ := (r.2 v _ hv).2
  have hcls := (hK.1 5 _ (show q_cl[5]? = some ("FontOutlines$Part", q_T5, 9) from rfl)).2
  obtain ⟨kA, comp, k1, k2, k3, -⟩ := (hK.2 4 _ (show (q_tys G)[4]? = some (G.2.1 4, .object "FontOutlines$Part") from rfl)).2
  have hcomp : comp = G.1.1 5 := Option.some.inj (k3.symm.trans hcls.1)
  subst hcomp
  obtain ⟨kC, hkC, -⟩ := hcls.2
  refine W.aast hexec hb hat (fun q h => by cases h) (fun h => by cases h) k1 k2 rfl hkC ⟨h0, by show _ < (arrV _ _ _).slots.size; rw [arrV_size]; exact hlt⟩ g1 (fun q h => by rw [g3] at h; cases h) (by rw [g2]; exact hkC) (by rw [g2]; exact va_assign hcls) rfl rfl hdg fun H1 e1 z oq => ?_
  refine kk H1 _ (r.upd ha ?_ z oq) (hS.put z oq (r.2 a _ ha).1)
  show H1[a]? = some (vp_cell _ _)
  rw [e1]
  show some ((vp_cell _ _).setSlot _ _) = _
  rw [vp_cell_q, vp_cell_q, arrV_store]
  congr 2
  funext q
  by_cases hq : q = i.toNatClampNeg
  · subst hq; simp [updV, va_up, va_rf]
  · simp [updV, va_up, hq]
theorem q_zero_len (ci : Nat) : ∀ N, (q_zero ci N).length = N
  | 0 => rfl
  | N + 1 => by simp [q_zero, q_zero_len ci N]
theorem q_dv_e (t : FieldType) : q_dv t = defaultValue t := by cases t <;> rfl
theorem q_zero_at (ci : Nat) : ∀ N j, j < N → defaultValue (q_ty ci j) = vp_V (q_zero ci N) j
  | 0, j, h => by omega
  | N + 1, j, h => by
    unfold vp_V
    by_cases hj : j < N
    · have := q_zero_at ci N j hj
      unfold vp_V at this
      rw [this, show q_zero ci (N + 1) = q_zero ci N ++ [q_dv (q_ty ci N)] from rfl, List.getD_eq_getElem?_getD, List.getD_eq_getElem?_getD, List.getElem?_append_left (by rw [q_zero_len]; exact hj)]
    · have hj' : j = N := by omega
      subst hj'
      rw [show q_zero ci (j + 1) = q_zero ci j ++ [q_dv (q_ty ci j)] from rfl, List.getD_eq_getElem?_getD, List.getElem?_append_right (by rw [q_zero_len]; exact Nat.le_refl _), q_zero_len, Nat.sub_self]
      exact (q_dv_e _).symm
theorem q_newo (hexec : p.tables.exec = Jvm.exec) (hb : c.code = cc) {own C : String} {T : u_T} {N ci index : Nat} {Ts : List Cond} (hts : ∀ w ∈ Ts, w.before args s = true) (hTs : ∀ w ∈ q_tbl, w ∈ Ts) (hown : s.vm.findClass own = some m.cls) (hK : va_K G.1 q_cl (q_tys G) s) (hB : G.2.2 ≤ H0.size) (r : q_rel G h n H) (hS : va_S (q_A G) H0 H locs) (hc : q_cl[ci]? = some (C, T, N)) (hl : Cond.classLink own index C ∈ q_tbl ∧ Cond.instantiable C N ∈ q_tbl ∧ Cond.initialized C ∈ q_tbl) (hcells : cells + 1 ≤ R.cells) (hslots : slots + N ≤ R.slots) (hdg : decode cc pc = .ok (.new index, 3))
    (kk : ∀ H1 : Heap, q_rel G (q_set h n (.inr (ci, q_zero ci N))) (n + 1) H1 → va_S (q_A G) H0 H1 locs → W p l e R s m args below meth c H1 locs (cells + 1) (slots + N) Q (F0 m (pc + 3) ls (.ref n :: rest))) : W p l e R s m args below meth c H locs cells slots Q (F0 m pc ls rest) := by
  obtain ⟨hin0, hty, hnm, hdc⟩ := q_cok ci C T N hc
  have hin : ∀ w ∈ u_ws C T N, w ∈ Ts := fun w hw => hTs w (hin0 w hw)
  have hKn := hK.1 ci _ hc
  refine W.newcK hexec hb hown (hts _ (hTs _ hl.1)) (hts _ (hTs _ hl.2.1)) (hts _ (hTs _ hl.2.2)) rfl hdg hcells hslots hKn.2.1 r.1 fun H1 kC hkC e1 z1 o1 => ?_
  refine kk H1 (r.push (by rw [← r.1]; exact Nat.le_trans hB hS.1) ⟨_, hc, (u_born (q_ty ci) hts hin hKn hkC e1 hty).to (q_zero_at ci N)⟩ z1 o1) ⟨by rw [z1, ← r.1]; exact Nat.le_trans hS.1 (Nat.le_succ _), fun x h1 h2 => (o1 x (by rw [← r.1]; exact Nat.lt_of_lt_of_le h1 hS.1)).trans (hS.2.1 x h1 h2), hS.2.2⟩
theorem q_newa (hexec : p.tables.exec = Jvm.exec) (hb : c.code = cc) {atype : ArrayType} {kd : Nat} (hkd : q_atk atype = some kd) {Ts : List Cond} (hts : ∀ w ∈ Ts, w.before args s = true) (hTs : ∀ w ∈ q_tbl, w ∈ Ts) (hK : va_K G.1 q_cl (q_tys G) s) (hB : G.2.2 ≤ H0.size) (r : q_rel G h n H) (hS : va_S (q_A G) H0 H locs) {x : Int32} (hx0 : ¬ x < 0) (hx1 : x.toNatClampNeg ≤ 1000000) (hcells : cells + 1 ≤ R.cells) (hslots : slots + x.toNatClampNeg ≤ R.slots) (hdg : decode cc pc = .ok (.newarray atype, 2))
    (kk : ∀ H1 : Heap, q_rel G (q_set h n (q_new kd x.toNatClampNeg)) (n + 1) H1 → va_S (q_A G) H0 H1 locs → W p l e R s m args below meth c H1 locs (cells + 1) (slots + x.toNatClampNeg) Q (F0 m (pc + 2) ls (.ref n :: rest))) : W p l e R s m args below meth c H locs cells slots Q (F0 m pc ls (.int x :: rest)) := by
  have key : ∀ (ty : FieldType) (a0 : vp_A), newarray.typeOf atype = ty → (q_tys G)[kd]? = some (G.2.1 kd, ty) → Cond.arrayClass ty ∈ q_tbl → componentBytes ty ≤ 8 → q_new kd x.toNatClampNeg = .inl (kd, a0) → (∀ cA : ClassId, vp_cell cA a0 = arrV cA x.toNatClampNeg (fun _ => defaultValue ty)) → (∀ U cA, va_RA U cA ty → U.vm.findClass ("[" ++ ty.toString) = some cA) → W p l e R s m args below meth c H locs cells slots Q (F0 m pc ls (.int x :: rest)) := by
    intro ty a0 hty ht hac hcb hq hcell hra
    subst hty
    refine va_newaK hexec hb (hts _ (hTs _ hac)) rfl hdg rfl hx0 rfl (Nat.le_trans (Nat.mul_le_mul hx1 hcb) (by decide)) hcells hslots r.1 fun H1 cA e1 z1 o1 hAr hNm => ?_
    have hcA : cA = G.2.1 kd := Option.some.inj (hNm.symm.trans (hra s _ (hK.2 kd _ ht).2))
    subst hcA
    refine kk H1 (r.push (by rw [← r.1]; exact Nat.le_trans hB hS.1) (by rw [hq]; show H1[n]? = some (vp_cell _ _); rw [hcell]; exact e1) z1 o1) ⟨by rw [z1, ← r.1]; exact Nat.le_trans hS.1 (Nat.le_succ _), fun x h1 h2 => (o1 x (by rw [← r.1]; exact Nat.lt_of_lt_of_le h1 hS.1)).trans (hS.2.1 x h1 h2), hS.2.2⟩
  cases atype <;> first | (cases hkd; done) | skip
  · cases hkd; exact key .boolean _ rfl rfl q_ac_boolean (by decide) rfl (fun _ => rfl) (fun U cA h => h)
  · cases hkd; exact key .byte _ rfl rfl q_ac_byte (by decide) rfl (fun _ => rfl) (fun U cA h => h)
  · cases hkd; exact key .int _ rfl rfl q_ac_int (by decide) rfl (fun _ => rfl) (fun U cA h => h)
  · cases hkd; exact key .long _ rfl rfl q_ac_long (by decide) rfl (fun _ => rfl) (fun U cA h => h)
theorem q_newq (hexec : p.tables.exec = Jvm.exec) (hb : c.code = cc) {own : String} {index : Nat} {Ts : List Cond} (hts : ∀ w ∈ Ts, w.before args s = true) (hTs : ∀ w ∈ q_tbl, w ∈ Ts) (hown : s.vm.findClass own = some m.cls) (hcl : Cond.classLink own index "FontOutlines$Part" ∈ q_tbl) (hover : va_AO "FontOutlines$Part" s) (hK : va_K G.1 q_cl (q_tys G) s) (hB : G.2.2 ≤ H0.size) (r : q_rel G h n H) (hS : va_S (q_A G) H0 H locs) {x : Int32} (hx0 : ¬ x < 0) (hx1 : x.toNatClampNeg ≤ 1000000) (hcells : cells + 1 ≤ R.cells) (hslots : slots + x.toNatClampNeg ≤ R.slots) (hdg : decode cc pc = .ok (.anewarray index, 3))
    (kk : ∀ H1 : Heap, q_rel G (q_set h n (q_new 4 x.toNatClampNeg)) (n + 1) H1 → va_S (q_A G) H0 H1 locs → W p l e R s m args below meth c H1 locs (cells + 1) (slots + x.toNatClampNeg) Q (F0 m (pc + 3) ls (.ref n :: rest))) : W p l e R s m args below meth c H locs cells slots Q (F0 m pc ls (.int x :: rest)) := by
  refine W.anew hexec hb hown (hts _ (hTs _ hcl)) (va_AO.use hover) rfl hdg rfl hx0 (by omega) hcells hslots fun cA kA comp f1 f2 f3 f4 => ?_
  obtain ⟨kA', comp', -, -, -, g4⟩ := (hK.2 4 _ (show (q_tys G)[4]? = some (G.2.1 4, .object "FontOutlines$Part") from rfl)).2
  have hcA : cA = G.2.1 4 := Option.some.inj (f1.symm.trans g4)
  subst hcA
  have hsz := r.1
  generalize hH1 : H.push ({ cls := G.2.1 4, slots := Array.replicate x.toNatClampNeg .null, vm := .none } : Cell) = H1
  have z1 : H1.size = n + 1 := by rw [← hH1, Array.size_push, hsz]
  have e1 : H1[n]? = some (arrV (G.2.1 4) x.toNatClampNeg (fun _ => .null)) := by rw [← hH1, ← hsz, Array.getElem?_push_size, ← arrV_new]
  have o1 : ∀ q : Nat, q < n → H1[q]? = H[q]? := fun q hq => by rw [← hH1, Array.getElem?_push, if_neg (by rw [hsz]; exact Nat.ne_of_lt hq)]
  rw [hsz]
  refine kk H1 (r.push (by rw [← hsz]; exact Nat.le_trans hB hS.1) (by show H1[n]? = some (vp_cell (G.2.1 4) (x.toNatClampNeg, .inr (.inr (.inr (.inr (fun _ => none)))))); rw [vp_cell_q]; exact e1) z1 o1) ⟨by rw [z1, ← hsz]; exact Nat.le_trans hS.1 (Nat.le_succ _), fun x h1 h2 => (o1 x (by rw [← hsz]; exact Nat.lt_of_lt_of_le h1 hS.1)).trans (hS.2.1 x h1 h2), hS.2.2⟩
theorem q_copy (hexec : p.tables.exec = Jvm.exec) (hb : c.code = cc) (hml : c.maxLocals = ls.size) {own : String} {index : Nat} {Ts : List Cond} (hts : ∀ w ∈ Ts, w.before args s = true) (hTs : ∀ w ∈ q_tbl, w ∈ Ts) (hown : s.vm.findClass own = some m.cls) (hlk : Cond.methodLink own index arraycopyName ∈ q_tbl) (hK : va_K G.1 q_cl (q_tys G) s) (r : q_rel G h n H) (hS : va_S (q_A G) H0 H locs) {a0 n0 n1 : Nat} {f g : Nat → Int32} (ha0 : h a0 = some (.inl (1, n0, .inl f))) (ha1 : h a = some (.inl (1, n1, .inl g)))
    {sp dp nn : Int32} (h1 : ¬ sp < 0) (h2 : ¬ dp < 0) (h3 : ¬ nn < 0) (h4 : sp.toNatClampNeg + nn.toNatClampNeg ≤ n0) (h5 : dp.toNatClampNeg + nn.toNatClampNeg ≤ n1) (hfit : ∀ i, i < nn.toNatClampNeg → fits .byte (.int (f (sp.toNatClampNeg + i))) = true)
    (hframes : 1 ≤ R.frames) (hlocals : (rest.map fun v => v.category).sum + (nativeFrameWords "java/lang/System" "arraycopy" 5 + 11) ≤ R.locals) (hdg : decode cc pc = .ok (.invokestatic index, 3))
    (kk : ∀ (H1 : Heap) (locs1 : List Loc), q_rel G (q_set h a (.inl (1, n1, .inl (va_cpy f g sp.toNatClampNeg dp.toNatClampNeg nn.toNatClampNeg)))) n H1 → va_S (q_A G) H0 H1 locs1 → W p l e R s m args below meth c H1 locs1 cells slots Q (F0 m (pc + 3) ls rest)) : W p l e R s m args below meth c H locs cells slots Q (F0 m pc ls (.int nn :: .int dp :: .ref a :: .int sp :: .ref a0 :: rest)) := by
  have cn : ∀ z : Int32, ¬ z < 0 → z.toInt = (z.toNatClampNeg : Int) := by
    intro z hz
    have hz0 : (0 : Int) ≤ z.toInt := by
      have := Int32.not_lt.mp hz
      simpa using Int32.le_iff_toInt_le.mp this
    show z.toInt = ((z.toInt.toNat : Nat) : Int)
    omega
  intro T hT X
  have hc0 : H[a0]? = some (vp_cell (G.2.1 1) (n0, .inl f)) := (r.2 a0 _ ha0).2
  have hc1 : H[a]? = some (vp_cell (G.2.1 1) (n1, .inl g)) := (r.2 a _ ha1).2
  have hA : q_A G a := (r.2 a _ ha1).1
  obtain ⟨-, k0, hk0, cm0, hkk0⟩ := (hK.2 1 _ rfl).1 n0 (fun j => .int (f j))
  obtain ⟨-, k1, hk1, cm1, hkk1⟩ := (hK.2 1 _ rfl).1 n1 (fun j => .int (g j))
  obtain ⟨vm', X', step⟩ := X.arraycopy hexec hown (hts _ (hTs _ hlk)) (hts _ (hTs _ q_na_ac)) (hts _ (hTs _ q_st_ac)) (hts _ (hTs _ q_in_Sys)) (src := a0) (dst := a) (cs := vp_cell (G.2.1 1) (n0, .inl f)) (cd := vp_cell (G.2.1 1) (n1, .inl g)) (srcPos := sp) (destPos := dp) (n := nn) (by rw [hT]; exact hc0) (by rw [hT]; exact hc1)
    (fun _ h => by cases h) (fun _ h => by cases h) (fun h => by cases h) (fun h => by cases h) hk0 hk1 hkk0 hkk1 (show ((refKind FieldType.byte != refKind FieldType.byte) || (!refKind FieldType.byte && FieldType.byte != FieldType.byte)) = false by decide) h1 h2 h3
    (by rw [cn sp h1, cn nn h3]; show ¬ _ > ((arrV _ n0 (fun j => .int (f j))).slots.size : Int); rw [arrV_size]; omega)
    (by rw [cn dp h2, cn nn h3]; show ¬ _ > ((arrV _ n1 (fun j => .int (g j))).slots.size : Int); rw [arrV_size]; omega)
    (fun vm₁ _ i hi => by
      have e : (vp_cell (G.2.1 1) (n0, .inl f)).slots.getD (sp.toNatClampNeg + i) .null = .int (f (sp.toNatClampNeg + i)) := by
        show (arrV _ n0 (fun j => .int (f j))).slots.getD _ _ = _
        rw [Array.getD_eq_getD_getElem?, arrV_read _ _ (by omega)]
        rfl
      exact ⟨by rw [e]; exact hfit i hi, by rw [e]; exact trivial⟩)
    (g := F0 m pc ls (.int nn :: .int dp :: .ref a :: .int sp :: .ref a0 :: rest)) rfl (by rw [hml]) (rest := rest) rfl (by rw [hb]; exact hdg) hframes (by show 2 * 0 + _ + _ ≤ _; omega)
  have e1 : copied (vp_cell (G.2.1 1) (n0, .inl f)) (vp_cell (G.2.1 1) (n1, .inl g)) sp dp nn = vp_cell (G.2.1 1) (n1, .inl (va_cpy f g sp.toNatClampNeg dp.toNatClampNeg nn.toNatClampNeg)) := va_copied (fun z => .int z) _ _ f g h4
  rw [e1] at X' step
  have hl : a < H.size := (Array.getElem?_eq_some_iff.mp hc1).1
  generalize vp_cell (G.2.1 1) (n1, .inl (va_cpy f g sp.toNatClampNeg dp.toNatClampNeg nn.toNatClampNeg)) = cl1 at X' step e1
  have hheap : ((T.setVm vm').setCell a cl1).heap = H.setIfInBounds a cl1 := by rw [← hT]; rfl
  have oq : ∀ q : Nat, q ≠ a → (H.setIfInBounds a cl1)[q]? = H[q]? := fun q hq => by simp [Array.getElem?_setIfInBounds, Ne.symm hq]
  have es : (H.setIfInBounds a cl1)[a]? = some cl1 := by simp [Array.getElem?_setIfInBounds, hl]
  have hz : (H.setIfInBounds a cl1).size = H.size := by simp
  obtain ⟨t, a1, b1⟩ := kk (H.setIfInBounds a cl1) _ (r.upd ha1 (by show (H.setIfInBounds a cl1)[a]? = some (vp_cell _ _); rw [es]; exact congrArg some (e1.symm.trans (va_copied (fun z => .int z) _ _ f g h4))) hz oq) ⟨by rw [hz]; exact hS.1, fun q g1 g2 => by
      rw [oq q (fun e => g2 (by rw [e]; exact hA))]
      exact hS.2.1 q g1 g2, fun q hq => by
      rcases List.mem_append.mp hq with h | h
      · exact hS.2.2 q h
      · obtain ⟨z, -, hz⟩ := List.mem_map.mp h
        rw [← hz]
        exact hA⟩ _ hheap X'
  exact ⟨t, step t a1, b1⟩
/-- behind a call -/
theorem q_after {mc ms : Nat} {Qp : q_P} {st0 : List Value} {aa : Array Value} (hr : va_Run p l e R s m args below meth c H locs cells slots mc ms (F0 m pc ls st0) rest (q_Qc G Qp aa) (q_A G)) (hS : va_S (q_A G) H0 H locs)
    (kk : ∀ (v : Option Value) (h1 : q_H) (n1 : Nat) (H1 : Heap) (locs1 : List Loc), q_rel G h1 n1 H1 → Qp v h1 n1 → va_S (q_A G) H0 H1 locs1 → W p l e R s m args below meth c H1 locs1 (cells + mc) (slots + ms) Q (F0 m (pc + 3) ls (v.toList ++ rest))) : W p l e R s m args below meth c H locs cells slots Q (F0 m pc ls st0) := by
  intro T hT X
  obtain ⟨v, st₀, t, T', L, h0, X', hL, e1, e2, ⟨v', h1, n1, hv, hrel, hq, hz, hk⟩, st⟩ := hr T hT X
  cases hv
  rw [h0] at hz hk
  obtain ⟨t2, a1, b1⟩ := kk v h1 n1 T'.heap (locs ++ L) (by rw [e1]; exact hrel) hq
    ⟨Nat.le_trans hS.1 (by rw [e1]; exact hz), fun q g1 g2 => by rw [e1, hk q (Nat.lt_of_lt_of_le g1 hS.1) g2]; exact hS.2.1 q g1 g2, fun q hq => by
      rcases List.mem_append.mp hq with hh | hh
      · exact hS.2.2 q hh
      · exact hL q hh⟩ T' rfl X'
  exact ⟨t2, st t2 a1, b1⟩
theorem q_blind (G : q_G) (h : q_H) (n : Nat) (As : List Value) : FrameBlind (va_Pc As (fun U => q_rel G h n U.heap ∧ q_Kx G U)) := by
  intro a U g mk q
  obtain ⟨q0, q1, qK, qN, qB⟩ := q
  exact ⟨q0, q1, va_K.moved (u := U) (U := U.calling g mk a) (Vm.Alike.refl U.vm) qK, q_NW.same (u := U) rfl qN, qB⟩
theorem q_pre (hKx : q_Kx G s) (r : q_rel G h n H) (hS : va_S (q_A G) s.heap H locs) (As : List Value) : ∀ U : State, U.heap = H → s.WarmedH U.vm → va_Pc As (fun U => q_rel G h n U.heap ∧ q_Kx G U) As.toArray U :=
  fun U hU hW => ⟨rfl, by rw [hU]; exact r, va_K.moved hW.alike hKx.1, hKx.2.1.warm hW, by rw [hU]; exact Nat.le_trans hKx.2.2 hS.1⟩
end Q6
end
section
/-! one instruction; a block; a walk over blocks -/
def q_len : Instr → Nat
  | .bipush _ => 2
  | .ldc _ => 2
  | .iload _ => 2
  | .lload _ => 2
  | .aload _ => 2
  | .istore _ => 2
  | .lstore _ => 2
  | .astore _ => 2
  | .newarray _ => 2
  | .sipush _ => 3
  | .ldc_w _ => 3
  | .ldc2_w _ => 3
  | .iinc _ _ => 3
  | .goto _ => 3
  | .ifCond _ _ => 3
  | .if_icmp _ _ => 3
  | .getfield _ => 3
  | .putfield _ => 3
  | .invokevirtual _ => 3
  | .invokespecial _ => 3
  | .invokestatic _ => 3
  | .new _ => 3
  | .anewarray _ => 3
  | _ => 1
def q_isT : Instr → Bool
  | .tableswitch _ _ _ _ => true
  | _ => false
/-- what is asked of the code at an instruction: its jump, its local -/
def q_tg (L : Nat) (i : Instr) (pc t : Nat) : Bool := match i with
  | .goto o => decide ((pc : Int) + o = (t : Int))
  | .ifCond _ o => decide ((pc : Int) + o = (t : Int))
  | .if_icmp _ o => decide ((pc : Int) + o = (t : Int))
  | .istore j => decide (j < L)
  | .istore_n j => decide (j.val < L)
  | .astore j => decide (j < L)
  | .astore_n j => decide (j.val < L)
  | .iinc j _ => decide (j < L)
  | .lstore j => decide (j + 1 < L)
  | .lstore_n j => decide (j.val + 1 < L)
  | _ => true
/-- a final field is written in its class's constructor alone -/
def q_fin (M : q_MT) (i : Instr) : Bool := match i with
  | .putfield j => match q_fl M.1 j with
    | some (ci, k, b) => match q_cl[ci]? with
      | some (C, T, _) => if (T k).2.2.2 then (!b && decide ((q_y M).name = "<init>") && decide ((q_y M).cls = C)) else true
      | none => false
    | none => false
  | _ => true
theorem q_nfw : nativeFrameWords "java/lang/System" "arraycopy" 5 + 19 ≤ 64 := by decide +kernel
theorem q_sl_s {pc : Nat} {x : Int32} {f : Nat → Prop} : ∀ {offs : List Int} {lo : Int} {j : Nat} {off : Int}, q_sl pc x f lo offs → offs[j]? = some off → x.toInt = lo + j → q_jp pc off f
  | [], lo, j, off, h, h1, h2 => by simp at h1
  | o :: r, lo, 0, off, h, h1, h2 => by
    simp at h1
    subst h1
    exact h.1 (by rw [h2]; simp)
  | o :: r, lo, j + 1, off, h, h1, h2 => q_sl_s (offs := r) (lo := lo + 1) (j := j) h.2 (by simpa using h1) (by rw [h2]; push_cast; omega)
set_option maxHeartbeats 4000000 in
theorem q_sd {G : q_G} {l : Launch} {M : q_MT} {d mc ms : Nat} {Q : q_P} {K : Nat → q_C} {i : Instr} {pc t : Nat} {nx : q_C} (ln : Nat) (hd : decode (q_b M) pc = .ok (i, ln)) (hln : (∃ a b c e, i = .tableswitch a b c e) ∨ (q_isT i = false ∧ ln = q_len i)) (ht : q_tg (q_ln M) i pc t = true) (hfn : q_fin M i = true)
    (hK : ∀ t lv st h n k sl, K t lv st h n k sl → q_Z G l M d mc ms Q t lv st h n k sl) (hn : ∀ lv st h n k sl, nx lv st h n k sl → q_Z G l M d mc ms Q (pc + ln) lv st h n k sl) :
    ∀ lv st h n k sl, q_ins G l M d mc ms Q K i pc t nx lv st h n k sl → q_Z G l M d mc ms Q pc lv st h n k sl := by
  intro lv st h n k sl hi p e s m args below meth c H locs ls cx r hS hl
  have hx := cx.1
  have hb := cx.2.1
  have hr := cx.2.2.1
  have hml := cx.2.2.2.1
  have hlk := cx.2.2.2.2.1
  have hown := cx.2.2.2.2.2.1
  have hts := cx.2.2.2.2.2.2.1
  have hKx := cx.2.2.2.2.2.2.2.1
  have hnm := cx.2.2.2.2.2.2.2.2.1
  have how := cx.2.2.2.2.2.2.2.2.2
  have hTs : ∀ w ∈ q_tbl, w ∈ q_ws M := fun w hw => List.mem_cons_of_mem _ hw
  have tb : ∀ w ∈ q_tbl, w.before args s = true := fun w hw => hts w (hTs w hw)
  have hB : G.2.2 ≤ s.heap.size := hKx.2.2
  have hx := hx
  rcases hln with ⟨df, lo, hi', offs, rfl⟩ | ⟨hnt, rfl⟩
  · obtain ⟨x, r2, rfl, h1, h2, h3⟩ := q_i_s hi
    by_cases hq : x.toInt < lo ∨ hi' < x.toInt
    · obtain ⟨g1, g2⟩ := h1 hq
      exact lv_tableOut hx hb hd hq (by omega) (hK _ _ _ _ _ _ _ g2 p e s m args below meth c H locs ls cx r hS hl)
    · have q1 : ¬ x.toInt < lo := fun q => hq (Or.inl q)
      have q2 : ¬ hi' < x.toInt := fun q => hq (Or.inr q)
      have q3 : (x.toInt - lo).toNat < offs.size := by omega
      obtain ⟨off, ho⟩ : ∃ off, offs[(x.toInt - lo).toNat]? = some off := ⟨_, Array.getElem?_eq_getElem q3⟩
      obtain ⟨g1, g2⟩ := q_sl_s (j := (x.toInt - lo).toNat) h2 (by rw [Array.getElem?_toList]; exact ho) (by omega)
      exact lv_tableIn hx hb hd q1 q2 ho (by omega) (hK _ _ _ _ _ _ _ g2 p e s m args below meth c H locs ls cx r hS hl)
  cases i with
  | iconst v => exact lv_iconst hx hb hd rfl (hn _ _ _ _ _ _ hi p e s m args below meth c H locs ls cx r hS hl)
  | bipush v => exact lv_bipush hx hb hd rfl (hn _ _ _ _ _ _ hi p e s m args below meth c H locs ls cx r hS hl)
  | sipush v => exact lv_sipush hx hb hd rfl (hn _ _ _ _ _ _ hi p e s m args below meth c H locs ls cx r hS hl)
  | lconst v => exact lv_lconst hx hb hd rfl (hn _ _ _ _ _ _ hi p e s m args below meth c H locs ls cx r hS hl)
  | ldc j => obtain ⟨v, h1, h2⟩ := q_op_s hi; exact lv_ldc hx hb hown (tb _ (q_ki_ok how h1)) hd (hn _ _ _ _ _ _ h2 p e s m args below meth c H locs ls cx r hS hl)
  | ldc_w j => obtain ⟨v, h1, h2⟩ := q_op_s hi; exact lv_ldcw hx hb hown (tb _ (q_ki_ok how h1)) hd (hn _ _ _ _ _ _ h2 p e s m args below meth c H locs ls cx r hS hl)
  | ldc2_w j => obtain ⟨v, h1, h2⟩ := q_op_s hi; exact lv_ldc2 hx hb hown (tb _ (q_kl_ok how h1)) hd (hn _ _ _ _ _ _ h2 p e s m args below meth c H locs ls cx r hS hl)
  | iload j => obtain ⟨v, h1, h2⟩ := q_li_s hi; exact lv_iload hx hb hd (hl.at h1) (hn _ _ _ _ _ _ h2 p e s m args below meth c H locs ls cx r hS hl)
  | iload_n j => obtain ⟨v, h1, h2⟩ := q_li_s hi; exact lv_iload_n hx hb hd rfl (hl.at h1) (hn _ _ _ _ _ _ h2 p e s m args below meth c H locs ls cx r hS hl)
  | lload j => obtain ⟨v, h1, h2⟩ := q_lj_s hi; exact lv_lload hx hb hd (hl.at h1) (hn _ _ _ _ _ _ h2 p e s m args below meth c H locs ls cx r hS hl)
  | lload_n j => obtain ⟨v, h1, h2⟩ := q_lj_s hi; exact lv_lload_n hx hb hd rfl (hl.at h1) (hn _ _ _ _ _ _ h2 p e s m args below meth c H locs ls cx r hS hl)
  | aload j => obtain ⟨v, h1, h2⟩ := q_la_s hi; exact lv_aload hx hb hd (hl.at h1) (hn _ _ _ _ _ _ h2 p e s m args below meth c H locs ls cx r hS hl)
  | aload_n j => obtain ⟨v, h1, h2⟩ := q_la_s hi; exact lv_aload_n hx hb hd rfl (hl.at h1) (hn _ _ _ _ _ _ h2 p e s m args below meth c H locs ls cx r hS hl)
  | istore j => obtain ⟨v, r', rfl, h2⟩ := q_i_s hi; exact lv_istore hx hb hd hl (of_decide_eq_true ht) rfl (fun ls hl => hn _ _ _ _ _ _ h2 p e s m args below meth c H locs ls cx r hS (q_lv.st1 hl))
  | istore_n j => obtain ⟨v, r', rfl, h2⟩ := q_i_s hi; exact lv_istore_n hx hb hd rfl hl (of_decide_eq_true ht) rfl (fun ls hl => hn _ _ _ _ _ _ h2 p e s m args below meth c H locs ls cx r hS (q_lv.st1 hl))
  | astore j => obtain ⟨v, r', rfl, h2⟩ := q_a_s hi; exact lv_astore hx hb hd hl (of_decide_eq_true ht) rfl (fun ls hl => hn _ _ _ _ _ _ h2 p e s m args below meth c H locs ls cx r hS (q_lv.st1 hl))
  | astore_n j => obtain ⟨v, r', rfl, h2⟩ := q_a_s hi; exact lv_astore_n hx hb hd rfl hl (of_decide_eq_true ht) rfl (fun ls hl => hn _ _ _ _ _ _ h2 p e s m args below meth c H locs ls cx r hS (q_lv.st1 hl))
  | lstore j => obtain ⟨v, r', rfl, h2⟩ := q_j_s hi; exact lv_lstore hx hb hd hl (of_decide_eq_true ht) rfl (fun ls hl => hn _ _ _ _ _ _ h2 p e s m args below meth c H locs ls cx r hS (q_lv.st2 hl))
  | lstore_n j => obtain ⟨v, r', rfl, h2⟩ := q_j_s hi; exact lv_lstore_n hx hb hd rfl hl (of_decide_eq_true ht) rfl (fun ls hl => hn _ _ _ _ _ _ h2 p e s m args below meth c H locs ls cx r hS (q_lv.st2 hl))
  | iinc j v =>
    obtain ⟨x, h1, h2⟩ := q_li_s hi
    obtain ⟨k', hk'⟩ := List.getElem?_of_mem ((q_pr_m lv 0 j (.int x)).mpr ⟨j, by omega, h1⟩)
    exact lv_iinc hx hb hd hl hk' rfl (of_decide_eq_true ht) rfl (fun ls hl => hn _ _ _ _ _ _ h2 p e s m args below meth c H locs ls cx r hS (q_lv.st1 hl))
  | iadd => obtain ⟨y, r1, rfl, h1⟩ := q_i_s hi; obtain ⟨x, r2, rfl, h2⟩ := q_i_s h1; exact lv_iadd hx hb hd (hn _ _ _ _ _ _ h2 p e s m args below meth c H locs ls cx r hS hl)
  | isub => obtain ⟨y, r1, rfl, h1⟩ := q_i_s hi; obtain ⟨x, r2, rfl, h2⟩ := q_i_s h1; exact lv_isub hx hb hd (hn _ _ _ _ _ _ h2 p e s m args below meth c H locs ls cx r hS hl)
  | imul => obtain ⟨y, r1, rfl, h1⟩ := q_i_s hi; obtain ⟨x, r2, rfl, h2⟩ := q_i_s h1; exact lv_imul hx hb hd (hn _ _ _ _ _ _ h2 p e s m args below meth c H locs ls cx r hS hl)
  | iand => obtain ⟨y, r1, rfl, h1⟩ := q_i_s hi; obtain ⟨x, r2, rfl, h2⟩ := q_i_s h1; exact lv_iand hx hb hd (hn _ _ _ _ _ _ h2 p e s m args below meth c H locs ls cx r hS hl)
  | ior => obtain ⟨y, r1, rfl, h1⟩ := q_i_s hi; obtain ⟨x, r2, rfl, h2⟩ := q_i_s h1; exact lv_ior hx hb hd (hn _ _ _ _ _ _ h2 p e s m args below meth c H locs ls cx r hS hl)
  | idiv => obtain ⟨y, r1, rfl, h1⟩ := q_i_s hi; obtain ⟨x, r2, rfl, h0, h2⟩ := q_i_s h1; exact lv_idiv hx hb hd h0 (hn _ _ _ _ _ _ h2 p e s m args below meth c H locs ls cx r hS hl)
  | irem => obtain ⟨y, r1, rfl, h1⟩ := q_i_s hi; obtain ⟨x, r2, rfl, h0, h2⟩ := q_i_s h1; exact lv_irem hx hb hd h0 (hn _ _ _ _ _ _ h2 p e s m args below meth c H locs ls cx r hS hl)
  | ineg => obtain ⟨x, r2, rfl, h2⟩ := q_i_s hi; exact lv_ineg hx hb hd (hn _ _ _ _ _ _ h2 p e s m args below meth c H locs ls cx r hS hl)
  | ishl => obtain ⟨y, r1, rfl, h1⟩ := q_i_s hi; obtain ⟨x, r2, rfl, h2⟩ := q_i_s h1; exact lv_ishl hx hb hd (hn _ _ _ _ _ _ h2 p e s m args below meth c H locs ls cx r hS hl)
  | ishr => obtain ⟨y, r1, rfl, h1⟩ := q_i_s hi; obtain ⟨x, r2, rfl, h2⟩ := q_i_s h1; exact lv_ishr hx hb hd (hn _ _ _ _ _ _ h2 p e s m args below meth c H locs ls cx r hS hl)
  | iushr => obtain ⟨y, r1, rfl, h1⟩ := q_i_s hi; obtain ⟨x, r2, rfl, h2⟩ := q_i_s h1; exact lv_iushr hx hb hd rfl (hn _ _ _ _ _ _ h2 p e s m args below meth c H locs ls cx r hS hl)
  | ladd => obtain ⟨y, r1, rfl, h1⟩ := q_j_s hi; obtain ⟨x, r2, rfl, h2⟩ := q_j_s h1; exact lv_ladd hx hb hd (hn _ _ _ _ _ _ h2 p e s m args below meth c H locs ls cx r hS hl)
  | lsub => obtain ⟨y, r1, rfl, h1⟩ := q_j_s hi; obtain ⟨x, r2, rfl, h2⟩ := q_j_s h1; exact lv_lsub hx hb hd (hn _ _ _ _ _ _ h2 p e s m args below meth c H locs ls cx r hS hl)
  | lmul => obtain ⟨y, r1, rfl, h1⟩ := q_j_s hi; obtain ⟨x, r2, rfl, h2⟩ := q_j_s h1; exact lv_lmul hx hb hd (hn _ _ _ _ _ _ h2 p e s m args below meth c H locs ls cx r hS hl)
  | land => obtain ⟨y, r1, rfl, h1⟩ := q_j_s hi; obtain ⟨x, r2, rfl, h2⟩ := q_j_s h1; exact lv_land hx hb hd (hn _ _ _ _ _ _ h2 p e s m args below meth c H locs ls cx r hS hl)
  | lor => obtain ⟨y, r1, rfl, h1⟩ := q_j_s hi; obtain ⟨x, r2, rfl, h2⟩ := q_j_s h1; exact lv_lor hx hb hd (hn _ _ _ _ _ _ h2 p e s m args below meth c H locs ls cx r hS hl)
  | ldiv => obtain ⟨y, r1, rfl, h1⟩ := q_j_s hi; obtain ⟨x, r2, rfl, h0, h2⟩ := q_j_s h1; exact lv_ldiv hx hb hd h0 (hn _ _ _ _ _ _ h2 p e s m args below meth c H locs ls cx r hS hl)
  | lrem => obtain ⟨y, r1, rfl, h1⟩ := q_j_s hi; obtain ⟨x, r2, rfl, h0, h2⟩ := q_j_s h1; exact lv_lrem hx hb hd h0 (hn _ _ _ _ _ _ h2 p e s m args below meth c H locs ls cx r hS hl)
  | lneg => obtain ⟨x, r2, rfl, h2⟩ := q_j_s hi; exact lv_lneg hx hb hd (hn _ _ _ _ _ _ h2 p e s m args below meth c H locs ls cx r hS hl)
  | lshl => obtain ⟨y, r1, rfl, h1⟩ := q_i_s hi; obtain ⟨x, r2, rfl, h2⟩ := q_j_s h1; exact lv_lshl hx hb hd rfl (hn _ _ _ _ _ _ h2 p e s m args below meth c H locs ls cx r hS hl)
  | lshr => obtain ⟨y, r1, rfl, h1⟩ := q_i_s hi; obtain ⟨x, r2, rfl, h2⟩ := q_j_s h1; exact lv_lshr hx hb hd rfl (hn _ _ _ _ _ _ h2 p e s m args below meth c H locs ls cx r hS hl)
  | lcmp => obtain ⟨y, r1, rfl, h1⟩ := q_j_s hi; obtain ⟨x, r2, rfl, h2⟩ := q_j_s h1; exact W.lcmp hx hb hd (hn _ _ _ _ _ _ h2 p e s m args below meth c H locs ls cx r hS hl)
  | i2l => obtain ⟨x, r2, rfl, h2⟩ := q_i_s hi; exact lv_i2l hx hb hd rfl (hn _ _ _ _ _ _ h2 p e s m args below meth c H locs ls cx r hS hl)
  | l2i => obtain ⟨x, r2, rfl, h2⟩ := q_j_s hi; exact lv_l2i hx hb hd rfl (hn _ _ _ _ _ _ h2 p e s m args below meth c H locs ls cx r hS hl)
  | i2b => obtain ⟨x, r2, rfl, h2⟩ := q_i_s hi; exact lv_i2b hx hb hd rfl (hn _ _ _ _ _ _ h2 p e s m args below meth c H locs ls cx r hS hl)
  | i2s => obtain ⟨x, r2, rfl, h2⟩ := q_i_s hi; exact lv_i2s hx hb hd rfl (hn _ _ _ _ _ _ h2 p e s m args below meth c H locs ls cx r hS hl)
  | dup => obtain ⟨x, r2, rfl, h1, h2⟩ := q_v_s hi; exact lv_dup hx hb hd h1 (hn _ _ _ _ _ _ h2 p e s m args below meth c H locs ls cx r hS hl)
  | dup2 => obtain ⟨x, r2, rfl, h1⟩ := q_v_s hi; obtain ⟨y, r3, rfl, h2, h3, h4⟩ := q_v_s h1; exact lv_dup2_11 hx hb hd h2 h3 (hn _ _ _ _ _ _ h4 p e s m args below meth c H locs ls cx r hS hl)
  | pop => obtain ⟨x, r2, rfl, h1, h2⟩ := q_v_s hi; exact lv_pop hx hb hd h1 (hn _ _ _ _ _ _ h2 p e s m args below meth c H locs ls cx r hS hl)
  | pop2 => obtain ⟨x, r2, rfl, h2⟩ := q_j_s hi; exact lv_pop2_2 hx hb hd rfl (hn _ _ _ _ _ _ h2 p e s m args below meth c H locs ls cx r hS hl)
  | goto o => exact lv_goto hx hb hd (of_decide_eq_true ht) (hK _ _ _ _ _ _ _ hi p e s m args below meth c H locs ls cx r hS hl)
  | ifCond cd o =>
    cases cd with
    | eq => obtain ⟨x, r2, rfl, h1, h2⟩ := q_i_s hi; exact lv_if_eq hx hb hd (of_decide_eq_true ht) (fun q => hK _ _ _ _ _ _ _ (h1 q) p e s m args below meth c H locs ls cx r hS hl) (fun q => hn _ _ _ _ _ _ (h2 q) p e s m args below meth c H locs ls cx r hS hl)
    | ne => obtain ⟨x, r2, rfl, h1, h2⟩ := q_i_s hi; exact lv_if_ne hx hb hd (of_decide_eq_true ht) (fun q => hK _ _ _ _ _ _ _ (h2 q) p e s m args below meth c H locs ls cx r hS hl) (fun q => hn _ _ _ _ _ _ (h1 q) p e s m args below meth c H locs ls cx r hS hl)
    | lt => obtain ⟨x, r2, rfl, h1, h2⟩ := q_i_s hi; exact lv_if_lt hx hb hd (of_decide_eq_true ht) (fun q => hK _ _ _ _ _ _ _ (h1 q) p e s m args below meth c H locs ls cx r hS hl) (fun q => hn _ _ _ _ _ _ (h2 q) p e s m args below meth c H locs ls cx r hS hl)
    | ge => obtain ⟨x, r2, rfl, h1, h2⟩ := q_i_s hi; exact lv_if_ge hx hb hd (of_decide_eq_true ht) (fun q => hK _ _ _ _ _ _ _ (h1 q) p e s m args below meth c H locs ls cx r hS hl) (fun q => hn _ _ _ _ _ _ (h2 q) p e s m args below meth c H locs ls cx r hS hl)
    | gt => obtain ⟨x, r2, rfl, h1, h2⟩ := q_i_s hi; exact lv_if_gt hx hb hd (of_decide_eq_true ht) (fun q => hK _ _ _ _ _ _ _ (h1 q) p e s m args below meth c H locs ls cx r hS hl) (fun q => hn _ _ _ _ _ _ (h2 q) p e s m args below meth c H locs ls cx r hS hl)
    | le => obtain ⟨x, r2, rfl, h1, h2⟩ := q_i_s hi; exact lv_if_le hx hb hd (of_decide_eq_true ht) (fun q => hK _ _ _ _ _ _ _ (h1 q) p e s m args below meth c H locs ls cx r hS hl) (fun q => hn _ _ _ _ _ _ (h2 q) p e s m args below meth c H locs ls cx r hS hl)
  | if_icmp cd o =>
    cases cd with
    | eq => obtain ⟨y, r1, rfl, h0⟩ := q_i_s hi; obtain ⟨x, r2, rfl, h1, h2⟩ := q_i_s h0; exact lv_icmp_eq hx hb hd (of_decide_eq_true ht) (fun q => hK _ _ _ _ _ _ _ (h1 q) p e s m args below meth c H locs ls cx r hS hl) (fun q => hn _ _ _ _ _ _ (h2 q) p e s m args below meth c H locs ls cx r hS hl)
    | ne => obtain ⟨y, r1, rfl, h0⟩ := q_i_s hi; obtain ⟨x, r2, rfl, h1, h2⟩ := q_i_s h0; exact lv_icmp_ne hx hb hd (of_decide_eq_true ht) (fun q => hK _ _ _ _ _ _ _ (h2 q) p e s m args below meth c H locs ls cx r hS hl) (fun q => hn _ _ _ _ _ _ (h1 q) p e s m args below meth c H locs ls cx r hS hl)
    | lt => obtain ⟨y, r1, rfl, h0⟩ := q_i_s hi; obtain ⟨x, r2, rfl, h1, h2⟩ := q_i_s h0; exact lv_icmp_lt hx hb hd (of_decide_eq_true ht) (fun q => hK _ _ _ _ _ _ _ (h1 q) p e s m args below meth c H locs ls cx r hS hl) (fun q => hn _ _ _ _ _ _ (h2 q) p e s m args below meth c H locs ls cx r hS hl)
    | ge => obtain ⟨y, r1, rfl, h0⟩ := q_i_s hi; obtain ⟨x, r2, rfl, h1, h2⟩ := q_i_s h0; exact lv_icmp_ge hx hb hd (of_decide_eq_true ht) (fun q => hK _ _ _ _ _ _ _ (h1 q) p e s m args below meth c H locs ls cx r hS hl) (fun q => hn _ _ _ _ _ _ (h2 q) p e s m args below meth c H locs ls cx r hS hl)
    | gt => obtain ⟨y, r1, rfl, h0⟩ := q_i_s hi; obtain ⟨x, r2, rfl, h1, h2⟩ := q_i_s h0; exact lv_icmp_gt hx hb hd (of_decide_eq_true ht) (fun q => hK _ _ _ _ _ _ _ (h1 q) p e s m args below meth c H locs ls cx r hS hl) (fun q => hn _ _ _ _ _ _ (h2 q) p e s m args below meth c H locs ls cx r hS hl)
    | le => obtain ⟨y, r1, rfl, h0⟩ := q_i_s hi; obtain ⟨x, r2, rfl, h1, h2⟩ := q_i_s h0; exact lv_icmp_le hx hb hd (of_decide_eq_true ht) (fun q => hK _ _ _ _ _ _ _ (h1 q) p e s m args below meth c H locs ls cx r hS hl) (fun q => hn _ _ _ _ _ _ (h2 q) p e s m args below meth c H locs ls cx r hS hl)
  | getfield j =>
    obtain ⟨⟨ci, kf, b⟩, h1, h2⟩ := q_op_s hi
    obtain ⟨a, r2, rfl, h3⟩ := q_a_s h2
    obtain ⟨fs, h4, h5⟩ := q_ob_s h3
    obtain ⟨v, h6, h7⟩ := q_nth_s h5
    obtain ⟨C, T, N, hc, hk, hl0, hl1⟩ := q_fl_ok how h1
    exact q_getf hx hb hts hTs hown hKx.1 hKx.2.1 r h4 hc hk hl0 hl1 h6 hd (hn _ _ _ _ _ _ h7 p e s m args below meth c H locs ls cx r hS hl)
  | putfield j =>
    obtain ⟨⟨ci, kf, b⟩, h1, h2⟩ := q_op_s hi
    obtain ⟨v, r1, rfl, h2⟩ := q_v_s h2
    obtain ⟨a, r2, rfl, h3⟩ := q_a_s h2
    obtain ⟨fs, h4, h5, h6, h7⟩ := q_ob_s h3
    obtain ⟨C, T, N, hc, hk, hl0, hl1⟩ := q_fl_ok how h1
    refine q_put hx hb hts hTs hown hKx.1 hKx.2.1 r hS h4 hc hk hl0 hl1 (fun hf => ?_) h6 h5 hd (fun H1 locs1 r1 hS1 => hn _ _ _ _ _ _ h7 p e s m args below meth c H1 locs1 ls cx r1 hS1 hl)
    unfold q_fin at hfn
    dsimp only at hfn
    rw [h1] at hfn
    dsimp only at hfn
    rw [hc] at hfn
    dsimp only at hfn
    rw [if_pos hf] at hfn
    simp only [Bool.and_eq_true, Bool.not_eq_true', decide_eq_true_eq] at hfn
    exact ⟨hfn.1.1, by rw [hnm]; exact hfn.1.2, hfn.2⟩
  | iaload =>
    obtain ⟨i, r1, rfl, h1⟩ := q_i_s hi; obtain ⟨a, r2, rfl, h2⟩ := q_a_s h1; obtain ⟨mm, g, h3, h4, h5⟩ := q_ri_s h2
    exact va_iald (D := G.1) hx hb hKx.1 (r.one h3) 0 0 rfl rfl h4 hd (hn _ _ _ _ _ _ h5 p e s m args below meth c H locs ls cx r hS hl)
  | iastore =>
    obtain ⟨x, r0, rfl, h0⟩ := q_i_s hi; obtain ⟨i, r1, rfl, h1⟩ := q_i_s h0; obtain ⟨a, r2, rfl, h2⟩ := q_a_s h1; obtain ⟨mm, g, h3, h4, h5⟩ := q_ri_s h2
    exact q_iast hx hb hKx.1 r hS h3 h4 hd (fun H1 locs1 r1 hS1 => hn _ _ _ _ _ _ h5 p e s m args below meth c H1 locs1 ls cx r1 hS1 hl)
  | baload =>
    obtain ⟨i, r1, rfl, h1⟩ := q_i_s hi; obtain ⟨a, r2, rfl, h2⟩ := q_a_s h1; obtain ⟨t, mm, g, h3, ht, h4, h5⟩ := q_rb_s h2
    rcases ht with rfl | rfl
    · exact va_bald (D := G.1) hx hb hKx.1 (r.one h3) 0 1 rfl rfl h4 hd (hn _ _ _ _ _ _ h5 p e s m args below meth c H locs ls cx r hS hl)
    · exact va_zald (D := G.1) hx hb hKx.1 (r.one h3) 0 3 rfl rfl h4 hd (hn _ _ _ _ _ _ h5 p e s m args below meth c H locs ls cx r hS hl)
  | bastore =>
    obtain ⟨x, r0, rfl, h0⟩ := q_i_s hi; obtain ⟨i, r1, rfl, h1⟩ := q_i_s h0; obtain ⟨a, r2, rfl, h2⟩ := q_a_s h1; obtain ⟨t, mm, g, h3, ht, h4, h5⟩ := q_rb_s h2
    exact q_bast hx hb hKx.1 r hS ht h3 h4 hd (fun H1 locs1 r1 hS1 => hn _ _ _ _ _ _ h5 p e s m args below meth c H1 locs1 ls cx r1 hS1 hl)
  | laload =>
    obtain ⟨i, r1, rfl, h1⟩ := q_i_s hi; obtain ⟨a, r2, rfl, h2⟩ := q_a_s h1; obtain ⟨mm, g, h3, h4, h5⟩ := q_rl_s h2
    exact va_lald (D := G.1) hx hb hKx.1 (r.one h3) 0 2 rfl rfl h4 hd (hn _ _ _ _ _ _ h5 p e s m args below meth c H locs ls cx r hS hl)
  | lastore =>
    obtain ⟨x, r0, rfl, h0⟩ := q_j_s hi; obtain ⟨i, r1, rfl, h1⟩ := q_i_s h0; obtain ⟨a, r2, rfl, h2⟩ := q_a_s h1; obtain ⟨mm, g, h3, h4, h5⟩ := q_rl_s h2
    exact q_last hx hb hKx.1 r hS h3 h4 hd (fun H1 locs1 r1 hS1 => hn _ _ _ _ _ _ h5 p e s m args below meth c H1 locs1 ls cx r1 hS1 hl)
  | aaload =>
    obtain ⟨i, r1, rfl, h1⟩ := q_i_s hi; obtain ⟨a, r2, rfl, h2⟩ := q_a_s h1; obtain ⟨mm, g, h3, h4, h5⟩ := q_rq_s h2
    exact va_aldq (D := G.1) (C := "FontOutlines$Part") hx hb hKx.1 (r.one h3) 0 4 rfl rfl h4 hd (hn _ _ _ _ _ _ h5 p e s m args below meth c H locs ls cx r hS hl)
  | aastore =>
    obtain ⟨v, r0, rfl, h0⟩ := q_a_s hi; obtain ⟨i, r1, rfl, h1⟩ := q_i_s h0; obtain ⟨a, r2, rfl, h2⟩ := q_a_s h1; obtain ⟨mm, g, h3, h4, h5⟩ := q_rq_s h2
    obtain ⟨vs, h6, h7⟩ := q_ob_s h5
    exact q_aast hx hb hKx.1 r hS h3 h6 h4 hd (fun H1 locs1 r1 hS1 => hn _ _ _ _ _ _ h7 p e s m args below meth c H1 locs1 ls cx r1 hS1 hl)
  | arraylength =>
    obtain ⟨a, r2, rfl, h2⟩ := q_a_s hi; obtain ⟨t, x, h3, h4, h5⟩ := q_ry_s h2
    exact va_alen (D := G.1) hx hb hKx.1 (r.one h3) 0 t rfl (q_tys_at G h4) rfl hd (hn _ _ _ _ _ _ h5 p e s m args below meth c H locs ls cx r hS hl)
  | new j =>
    obtain ⟨ci, h1, h2⟩ := q_op_s hi; obtain ⟨⟨C, T, N⟩, h3, h4, h5, h6⟩ := q_op_s h2
    exact q_newo hx hb hts hTs hown hKx.1 hB r hS h3 (q_cn_ok how h1 h3) h4 h5 hd (fun H1 r1 hS1 => hn _ _ _ _ _ _ h6 p e s m args below meth c H1 locs ls cx r1 hS1 hl)
  | newarray ty =>
    obtain ⟨kd, h1, h2⟩ := q_op_s hi; obtain ⟨x, r2, rfl, h3, h3', h4, h5, h6⟩ := q_i_s h2
    exact q_newa hx hb h1 hts hTs hKx.1 hB r hS h3 h3' h4 h5 hd (fun H1 r1 hS1 => hn _ _ _ _ _ _ h6 p e s m args below meth c H1 locs ls cx r1 hS1 hl)
  | invokevirtual j =>
    obtain ⟨⟨na, M', kd⟩, h1, h2, h3⟩ := q_op_s hi
    dsimp only at h2
    subst h2
    obtain ⟨bs, r2, hbs, rfl, h4⟩ := q_ags_s h3
    rw [List.append_nil] at h4
    obtain ⟨b, r3, rfl, hcat, h5⟩ := q_a_s h4
    obtain ⟨fs, h6, h7⟩ := q_ob_s h5
    obtain ⟨d', rfl, mc', ms', h8, h9, h10⟩ := q_dn_s h7
    obtain ⟨hM, hpd, ⟨w1, w2, w3, w4⟩, -⟩ := q_ml_ok how h1
    obtain ⟨m1, m2, m3, m4, m5⟩ := q_okM_s hM
    have hcw : CallW (q_rm (d' + 1) mc ms) s args (q_y M).cls (q_y M').cls j (q_y M') (q_b M') (q_ln M') (q_r M') (q_ws M') (q_rm d' mc' ms') mc' ms' na :=
      ⟨callB_of na hts (q_good m1) rfl rfl rfl (tb _ w4) (tb _ w1) ⟨m5.1, m5.2, hpd⟩ ⟨Nat.le_refl _, by show 8 + (q_ln M' + 11) + 64 * d' ≤ 64 * (d' + 1); omega⟩, tb _ w2, tb _ w3⟩
    obtain ⟨rr, hrr, cell, q1, q2, q3, -⟩ := (r.2 b _ h6).2
    have hcls := (hKx.1.1 M'.1 rr hrr).2.1
    have hrc : rr.1 = (q_y M').cls := by
      have h1' : q_ow[M'.1]? = some rr.1 := by
        have : ∀ (ci : Nat) (x : vw_C), q_cl[ci]? = some x → q_ow[ci]? = some x.1 := by
          intro ci x hx
          match ci, hx with
          | 0, hx => cases hx; rfl
          | 1, hx => cases hx; rfl
          | 2, hx => cases hx; rfl
          | 3, hx => cases hx; rfl
          | 4, hx => cases hx; rfl
          | 5, hx => cases hx; rfl
          | 6, hx => cases hx; rfl
          | 7, hx => cases hx; rfl
          | 8, hx => cases hx; rfl
          | ci + 9, hx => cases hx
        exact this _ _ hrr
      exact Option.some.inj (h1'.symm.trans m2)
    refine q_after (va_runV (As := bs) (rest := r3) ⟨hx, hb, hml, hown, hts⟩ h10 hcw ⟨q_blind G h n _, ⟨cell, q1, by rw [q3]; rfl, by rw [← hrc, q2]; exact hcls⟩, q_pre hKx r hS _⟩ rfl hbs hl.1 rfl (by show 2 * 0 + _ ≤ 8; rw [q_cat_e]; omega) hd ⟨h8, h9⟩) hS (fun v h1 n1 H1 locs1 r1 hq hS1 => hn _ _ _ _ _ _ hq p e s m args below meth c H1 locs1 ls cx r1 hS1 hl)
  | invokespecial j =>
    unfold q_ins at hi
    dsimp only at hi
    by_cases ho : q_oi M.1 j = true
    · rw [if_pos ho] at hi
      obtain ⟨b, r3, rfl, hcat, h5⟩ := q_a_s hi
      obtain ⟨d', rfl, h6⟩ := q_dn_s h5
      exact W.objInit hx hb hown (tb _ (q_oi_ok how ho)) (tb _ q_oIn) (tb _ q_oCo) rfl (by rw [hml]; exact hl.1) rfl hd (by show 1 ≤ d' + 1; omega) (by show 2 * 0 + _ + 12 ≤ 64 * (d' + 1); rw [q_cat_e]; omega) (hn _ _ _ _ _ _ h6 p e s m args below meth c H locs ls cx r hS hl)
    · rw [if_neg ho] at hi
      obtain ⟨⟨na, M', kd⟩, h1, h2, h3⟩ := q_op_s hi
      dsimp only at h2
      subst h2
      obtain ⟨bs, r2, hbs, rfl, h4⟩ := q_ags_s h3
      rw [List.append_nil] at h4
      obtain ⟨b, r3, rfl, hcat, h7⟩ := q_a_s h4
      obtain ⟨d', rfl, mc', ms', h8, h9, h10⟩ := q_dn_s h7
      obtain ⟨hM, hpd, ⟨w1, w2, w3, w4⟩, hrn⟩ := q_ml_ok how h1
      obtain ⟨m1, m2, m3, m4, m5⟩ := q_okM_s hM
      have hrn := hrn rfl
      have hcb := callB_of (R := q_rm (d' + 1) mc ms) (own := (q_y M).cls) (rm := q_rm d' mc' ms') (mc := mc') (ms := ms') na hts (q_good m1) rfl rfl rfl (tb _ w3) (tb _ w1) ⟨m5.1, m5.2, hpd⟩ ⟨Nat.le_refl _, by show 8 + (q_ln M' + 11) + 64 * d' ≤ 64 * (d' + 1); omega⟩
      rw [hrn] at hcb
      refine q_after (va_runI (As := bs) (rest := r3) ⟨hx, hb, hml, hown, hts⟩ h10 ⟨hcb, w4, tb _ w2⟩ ⟨q_blind G h n _, q_pre hKx r hS _⟩ rfl hbs hl.1 rfl (by show 2 * 0 + _ ≤ 8; rw [q_cat_e]; omega) hd ⟨h8, h9⟩) hS (fun v h1 n1 H1 locs1 r1 hq hS1 => hn _ _ _ _ _ _ hq p e s m args below meth c H1 locs1 ls cx r1 hS1 hl)
  | anewarray j =>
    obtain ⟨x, r2, rfl, h1, h3, h3', h4, h5, h6⟩ := q_i_s hi
    exact q_newq hx hb hts hTs hown (q_an_ok how h1) hKx.2.1.2 hKx.1 hB r hS h3 h3' h4 h5 hd (fun H1 r1 hS1 => hn _ _ _ _ _ _ h6 p e s m args below meth c H1 locs ls cx r1 hS1 hl)
  | invokestatic j =>
    unfold q_ins at hi
    dsimp only at hi
    by_cases hac : q_ac M.1 j = true
    · rw [if_pos hac] at hi
      obtain ⟨nn, r1, rfl, h1⟩ := q_i_s hi; obtain ⟨dp, r2, rfl, h2⟩ := q_i_s h1; obtain ⟨a, r3, rfl, h3⟩ := q_a_s h2; obtain ⟨sp, r4, rfl, h4⟩ := q_i_s h3; obtain ⟨a0, r5, rfl, hcat, h5⟩ := q_a_s h4
      obtain ⟨n0, f, g1, h6⟩ := q_ri_s h5; obtain ⟨n1, g, g2, k1, k2, k3, k4, k5, k6, h7⟩ := q_ri_s h6
      obtain ⟨d', rfl, h8⟩ := q_dn_s h7
      exact q_copy hx hb (by rw [hml]; exact hl.1.symm) hts hTs hown (q_ac_ok how hac) hKx.1 r hS g1 g2 k1 k2 k3 k4 k5 k6 (by show 1 ≤ d' + 1; omega) (by show _ + _ ≤ 64 * (d' + 1); rw [q_cat_e]; have := q_nfw; omega) hd (fun H1 locs1 r1 hS1 => hn _ _ _ _ _ _ h8 p e s m args below meth c H1 locs1 ls cx r1 hS1 hl)
    rw [if_neg hac] at hi
    cases hm : q_mm M.1 j with
    | some b =>
      rw [hm] at hi
      dsimp only at hi
      obtain ⟨y, r1, rfl, h1⟩ := q_i_s hi; obtain ⟨x, r2, rfl, hcat, hkc, hks, h2⟩ := q_i_s h1
      obtain ⟨d', rfl, h3⟩ := q_dn_s h2
      have hw := q_mm_ok how hm
      cases b with
      | true => exact va_mmax hx hb (by rw [hml]; exact hl.1.symm) hown (tb _ hw) (tb _ q_st_max) (tb _ q_in_Math) (tb _ q_co_max) (by show 1 ≤ d' + 1; omega) (by show _ + 13 ≤ 64 * (d' + 1); rw [q_cat_e]; omega) hkc hks hd (hn _ _ _ _ _ _ h3 p e s m args below meth c H locs ls cx r hS hl)
      | false => exact va_mmin hx hb (by rw [hml]; exact hl.1.symm) hown (tb _ hw) (tb _ q_st_min) (tb _ q_in_Math) (tb _ q_co_min) (by show 1 ≤ d' + 1; omega) (by show _ + 13 ≤ 64 * (d' + 1); rw [q_cat_e]; omega) hkc hks hd (hn _ _ _ _ _ _ h3 p e s m args below meth c H locs ls cx r hS hl)
    | none =>
      rw [hm] at hi
      dsimp only at hi
      obtain ⟨⟨na, M', kd⟩, h1, h2, h3⟩ := q_op_s hi
      dsimp only at h2
      subst h2
      obtain ⟨bs, r2, hbs, rfl, h4⟩ := q_ags_s h3
      rw [List.append_nil] at h4
      obtain ⟨hcat, h7⟩ := h4
      obtain ⟨d', rfl, mc', ms', h8, h9, h10⟩ := q_dn_s h7
      obtain ⟨hM, hpd, ⟨w1, w2, w3⟩, -⟩ := q_ml_ok how h1
      obtain ⟨m1, m2, m3, m4, m5⟩ := q_okM_s hM
      have hcb := callB_of (R := q_rm (d' + 1) mc ms) (own := (q_y M).cls) (rm := q_rm d' mc' ms') (mc := mc') (ms := ms') na hts (q_good m1) rfl rfl rfl (tb _ w3) (tb _ w1) ⟨m5.1, m5.2, hpd⟩ ⟨Nat.le_refl _, by show 8 + (q_ln M' + 11) + 64 * d' ≤ 64 * (d' + 1); omega⟩
      refine q_after (va_runS (As := bs) (rest := r2) ⟨hx, hb, hml, hown, hts⟩ h10 ⟨hcb, tb _ w2⟩ ⟨q_blind G h n _, q_pre hKx r hS _⟩ rfl hbs hl.1 rfl (by show 2 * 0 + _ ≤ 8; rw [q_cat_e]; omega) hd ⟨h8, h9⟩) hS (fun v h1 n1 H1 locs1 r1 hq hS1 => hn _ _ _ _ _ _ hq p e s m args below meth c H1 locs1 ls cx r1 hS1 hl)
  | ireturn =>
    obtain ⟨x, r1, rfl, rfl, h1⟩ := q_i_s hi; obtain ⟨ty, h2, h3, h4, h5, h6⟩ := q_op_s h1
    refine W.widen h4 h5 ?_
    exact W.zret hx hb (by rw [hr]; exact h2) h3 (fun t ht hW => ⟨_, h, n, rfl, by rw [ht]; exact r, h6, hS.F ht⟩) hS.2.2 hd hlk
  | lreturn =>
    obtain ⟨x, r1, rfl, rfl, h2, h4, h5, h6⟩ := q_j_s hi
    refine W.widen h4 h5 ?_
    exact W.lret hx hb (by rw [hr]; exact h2) (fun t ht hW => ⟨_, h, n, rfl, by rw [ht]; exact r, h6, hS.F ht⟩) hS.2.2 hd hlk
  | areturn =>
    obtain ⟨x, r1, rfl, rfl, h1⟩ := q_a_s hi; obtain ⟨ty, h2, h3, h4, h5, h6⟩ := q_op_s h1
    refine W.widen h4 h5 ?_
    exact W.aret hx hb (by rw [hr]; exact h2) h3 (Or.inr ⟨x, rfl⟩) (fun t ht hW => ⟨_, h, n, rfl, by rw [ht]; exact r, h6, hS.F ht⟩) hS.2.2 hd hlk
  | return_ =>
    obtain ⟨rfl, h2, h4, h5, h6⟩ := hi
    refine W.widen h4 h5 ?_
    exact W.vret hx hb (by rw [hr]; exact h2) (fun t ht hW => ⟨_, h, n, rfl, by rw [ht]; exact r, h6, hS.F ht⟩) hS.2.2 hd hlk
  | tableswitch _ _ _ _ => cases hnt
  | _ => exact hi.elim
/-- a block of instructions, each with its place and its jump -/
def q_blk (G : q_G) (l : Launch) (M : q_MT) (d mc ms : Nat) (Q : q_P) (K : Nat → q_C) (e : Nat) : List (Instr × Nat × Nat) → q_C
  | [] => K e
  | x :: r => q_ins G l M d mc ms Q K x.1 x.2.1 x.2.2 (q_blk G l M d mc ms Q K e r)
def q_end : Instr → Bool
  | .tableswitch _ _ _ _ => true
  | .goto _ => true
  | .ireturn => true
  | .lreturn => true
  | .areturn => true
  | .return_ => true
  | .athrow => true
  | _ => false
/-- the code holds the block from pc on -/
def q_okB (M : q_MT) (e : Nat) : Nat → List (Instr × Nat × Nat) → Bool
  | pc, [] => pc == e
  | pc, (i, q, t) :: r => q == pc && (match decode (q_b M) pc with
    | .ok (j, ln) => decide (i = j) && (q_isT i || ln == q_len i) && q_tg (q_ln M) i pc t && q_fin M i && (q_end i || q_okB M e (pc + ln) r)
    | _ => false)
theorem q_blk_s {G : q_G} {l : Launch} {M : q_MT} {d mc ms : Nat} {Q : q_P} {K : Nat → q_C} {e : Nat} (hK : ∀ t lv st h n k sl, K t lv st h n k sl → q_Z G l M d mc ms Q t lv st h n k sl) :
    ∀ (b : List (Instr × Nat × Nat)) (pc : Nat), q_okB M e pc b = true → ∀ lv st h n k sl, q_blk G l M d mc ms Q K e b lv st h n k sl → q_Z G l M d mc ms Q pc lv st h n k sl
  | [], pc, ok, lv, st, h, n, k, sl, hh => by
    simp only [q_okB, beq_iff_eq] at ok
    subst ok
    exact hK _ _ _ _ _ _ _ hh
  | (i, q, t) :: r, pc, ok, lv, st, h, n, k, sl, hh => by
    simp only [q_okB, Bool.and_eq_true, beq_iff_eq] at ok
    obtain ⟨rfl, ok⟩ := ok
    cases hdc : decode (q_b M) q with
    | error _ => rw [hdc] at ok; cases ok
    | ok x =>
      obtain ⟨j, ln⟩ := x
      rw [hdc] at ok
      simp only [Bool.and_eq_true, decide_eq_true_eq] at ok
      obtain ⟨⟨⟨⟨rfl, o1⟩, o2⟩, o3⟩, o4⟩ := ok
      refine q_sd ln hdc ?_ o2 o3 hK (nx := if q_end i = true then fun _ _ _ _ _ _ => False else q_blk G l M d mc ms Q K e r) ?_ lv st h n k sl ?_
      · cases hT : q_isT i with
        | true => left; cases i <;> first | exact ⟨_, _, _, _, rfl⟩ | cases hT
        | false => right; rw [hT, Bool.false_or] at o1; exact ⟨rfl, beq_iff_eq.mp o1⟩
      · intro lv st h n k sl hx
        rw [Bool.or_eq_true] at o4
        rcases o4 with o4 | o4
        · rw [if_pos o4] at hx; exact hx.elim
        · by_cases he : q_end i = true
          · rw [if_pos he] at hx; exact hx.elim
          · rw [if_neg he] at hx; exact q_blk_s hK r _ o4 lv st h n k sl hx
      · have hh : q_ins G l M d mc ms Q K i q t (q_blk G l M d mc ms Q K e r) lv st h n k sl := hh
        cases i <;> first | exact hh | skip
def q_bk (B : q_B) (pc : Nat) : Option (List (Instr × Nat × Nat) × Nat) := (B.find? (fun x => x.1 == pc)).map (fun x => x.2)
def q_okC (M : q_MT) (B : q_B) : Bool := B.all (fun x => q_okB M x.2.2 x.1 x.2.1)
/-- on over the blocks, up to the places in S -/
def q_go (G : q_G) (l : Launch) (M : q_MT) (d mc ms : Nat) (Q : q_P) (B : q_B) (S : List Nat) : Nat → Nat → q_C
  | 0, pc => q_Z G l M d mc ms Q pc
  | f + 1, pc => fun lv st h n k sl => if S.contains pc = true then q_Z G l M d mc ms Q pc lv st h n k sl else q_op (q_bk B pc) fun b => q_blk G l M d mc ms Q (q_go G l M d mc ms Q B S f) b.2 b.1 lv st h n k sl
theorem q_bk_ok {M : q_MT} {B : q_B} (hB : q_okC M B = true) {pc : Nat} {b : List (Instr × Nat × Nat) × Nat} (h : q_bk B pc = some b) : q_okB M b.2 pc b.1 = true := by
  unfold q_bk at h
  cases hf : B.find? (fun x => x.1 == pc) with
  | none => rw [hf] at h; cases h
  | some x =>
    rw [hf] at h
    have h1 := List.find?_some hf
    have h2 := List.mem_of_find?_eq_some hf
    simp only [beq_iff_eq] at h1
    simp only [Option.map_some, Option.some.injEq] at h
    subst h; subst h1
    exact List.all_eq_true.mp hB x h2
theorem q_go_s {G : q_G} {l : Launch} {M : q_MT} {d mc ms : Nat} {Q : q_P} {B : q_B} (hB : q_okC M B = true) (S : List Nat) : ∀ (f pc : Nat) lv st h n k sl, q_go G l M d mc ms Q B S f pc lv st h n k sl → q_Z G l M d mc ms Q pc lv st h n k sl
  | 0, pc, lv, st, h, n, k, sl, hh => hh
  | f + 1, pc, lv, st, h, n, k, sl, hh => by
    unfold q_go at hh
    by_cases hs : S.contains pc = true
    · rw [if_pos hs] at hh; exact hh
    · rw [if_neg hs] at hh
      obtain ⟨b, h1, h2⟩ := q_op_s hh
      exact q_blk_s (q_go_s hB S f) b.1 pc (q_bk_ok hB h1) lv st h n k sl h2
/-- from a place on, over its block, up to the places in S -/
theorem q_at {G : q_G} {l : Launch} {M : q_MT} {d mc ms : Nat} {Q : q_P} {B : q_B} (hB : q_okC M B = true) (S : List Nat) (f : Nat) {pc : Nat} {b : List (Instr × Nat × Nat) × Nat} (hb : q_bk B pc = some b) {lv : q_L} {st : List Value} {h : q_H} {n k sl : Nat} (hh : q_blk G l M d mc ms Q (q_go G l M d mc ms Q B S f) b.2 b.1 lv st h n k sl) : q_Z G l M d mc ms Q pc lv st h n k sl :=
  q_blk_s (q_go_s hB S f) b.1 pc (q_bk_ok hB hb) lv st h n k sl hh
/-- a method by its body -/
theorem q_in {G : q_G} {l : Launch} {M : q_MT} {d mc ms : Nat} {Q : q_P} {As : List Value} {h : q_H} {n : Nat} (hM : q_okM M = true) (hA : (lg_sl As).length ≤ q_ln M) (hh : q_Z G l M d mc ms Q 0 (q_pad (q_ln M) (q_ar As)) [] h n 0 0) : q_Call G l M d mc ms As h n Q := by
  obtain ⟨m1, m2, m3, m4, m5⟩ := q_okM_s hM
  refine Met.ofW (cc := q_b M) (maxL := q_ln M) (ret := q_r M) m3 rfl ?_
  intro p e s m args below meth c s₁ B hml hv
  obtain ⟨rfl, r, hKx⟩ := hv
  rw [lg_entry_eq]
  have hl := lv_entry As (n := q_ln M) hA
  generalize (lg_sl As ++ List.replicate (q_ln M - (lg_sl As).length) Slot.unset).toArray = ls at hl ⊢
  refine hh p e s m _ below meth c s.heap [] ls ⟨B.exec, B.bytes, B.returns, hml, B.notSynchronized, findClass_of_methodNamed B.named, atoms_spec (ws := q_ws M) B.pre, hKx, (name_of_methodNamed B.named B.method).1, m2⟩ r va_S.rf ⟨hl.1, hl.2.1, fun q hq => ?_⟩
  obtain ⟨j, h1, h2⟩ := (q_pr_m _ 0 q.1 q.2).mp hq
  have h3 := q_ar_a As 0 j q.2 (q_pad_g _ _ _ _ h2)
  exact hl.2.2 q (by rw [show q = (0 + j, q.2) by rw [← h1]]; exact h3)
end
