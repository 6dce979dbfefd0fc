section
-- ===== PART A: goes FIRST, ahead of the names: the tables' words, and 'selects' of the private methods out of them =====
/-- a private method of a class that the tables say can be made, by its rows of tables_1 -/
def lw_okq (q : MethodName × Nat) : Prop := (q.1.cls ≠ "java/lang/invoke/MethodHandle" ∧ q.1.cls ≠ "java/lang/invoke/VarHandle") ∧ Cond.instantiable q.1.cls q.2 ∈ tables_1 ∧ Cond.privateMethod q.1 ∈ tables_1 ∧ Cond.instanceMethod q.1 ∈ tables_1
theorem lw_p0 : lw_okq (⟨"FontOutlines$Font", "isFile", "()Z"⟩, 15) := ⟨⟨by decide +kernel, by decide +kernel⟩, List.mem_of_getElem? (i := 49) (by decide +kernel), List.mem_of_getElem? (i := 336) (by decide +kernel), List.mem_of_getElem? (i := 337) (by decide +kernel)⟩
theorem lw_p1 : lw_okq (⟨"FontOutlines$Font", "tables", "()I"⟩, 15) := ⟨⟨by decide +kernel, by decide +kernel⟩, List.mem_of_getElem? (i := 49) (by decide +kernel), List.mem_of_getElem? (i := 340) (by decide +kernel), List.mem_of_getElem? (i := 341) (by decide +kernel)⟩
theorem lw_p2 : lw_okq (⟨"FontOutlines$Font", "hasSums", "()Z"⟩, 15) := ⟨⟨by decide +kernel, by decide +kernel⟩, List.mem_of_getElem? (i := 49) (by decide +kernel), List.mem_of_getElem? (i := 363) (by decide +kernel), List.mem_of_getElem? (i := 364) (by decide +kernel)⟩
theorem lw_p3 : lw_okq (⟨"FontOutlines$Font", "layByEntry", "(LFontOutlines$Table;I)V"⟩, 15) := ⟨⟨by decide +kernel, by decide +kernel⟩, List.mem_of_getElem? (i := 49) (by decide +kernel), List.mem_of_getElem? (i := 367) (by decide +kernel), List.mem_of_getElem? (i := 368) (by decide +kernel)⟩
theorem lw_p4 : lw_okq (⟨"FontOutlines$Font", "sum", "(LFontOutlines$Table;)J"⟩, 15) := ⟨⟨by decide +kernel, by decide +kernel⟩, List.mem_of_getElem? (i := 49) (by decide +kernel), List.mem_of_getElem? (i := 371) (by decide +kernel), List.mem_of_getElem? (i := 372) (by decide +kernel)⟩
theorem lw_p5 : lw_okq (⟨"FontOutlines$Font", "hasTables", "()Z"⟩, 15) := ⟨⟨by decide +kernel, by decide +kernel⟩, List.mem_of_getElem? (i := 49) (by decide +kernel), List.mem_of_getElem? (i := 376) (by decide +kernel), List.mem_of_getElem? (i := 377) (by decide +kernel)⟩
theorem lw_p6 : lw_okq (⟨"FontOutlines$Font", "finds", "(LFontOutlines$Table;I)Z"⟩, 15) := ⟨⟨by decide +kernel, by decide +kernel⟩, List.mem_of_getElem? (i := 49) (by decide +kernel), List.mem_of_getElem? (i := 381) (by decide +kernel), List.mem_of_getElem? (i := 382) (by decide +kernel)⟩
theorem lw_p7 : lw_okq (⟨"FontOutlines$Font", "hasCounts", "()Z"⟩, 15) := ⟨⟨by decide +kernel, by decide +kernel⟩, List.mem_of_getElem? (i := 49) (by decide +kernel), List.mem_of_getElem? (i := 391) (by decide +kernel), List.mem_of_getElem? (i := 392) (by decide +kernel)⟩
theorem lw_p8 : lw_okq (⟨"FontOutlines$Font", "hasPlaces", "()Z"⟩, 15) := ⟨⟨by decide +kernel, by decide +kernel⟩, List.mem_of_getElem? (i := 49) (by decide +kernel), List.mem_of_getElem? (i := 395) (by decide +kernel), List.mem_of_getElem? (i := 396) (by decide +kernel)⟩
theorem lw_p9 : lw_okq (⟨"FontOutlines$CharacterMap", "firstEntry", "(II)I"⟩, 4) := ⟨⟨by decide +kernel, by decide +kernel⟩, List.mem_of_getElem? (i := 77) (by decide +kernel), List.mem_of_getElem? (i := 410) (by decide +kernel), List.mem_of_getElem? (i := 411) (by decide +kernel)⟩
theorem lw_p10 : lw_okq (⟨"FontOutlines$CharacterMap", "hasGroups", "()Z"⟩, 4) := ⟨⟨by decide +kernel, by decide +kernel⟩, List.mem_of_getElem? (i := 77) (by decide +kernel), List.mem_of_getElem? (i := 415) (by decide +kernel), List.mem_of_getElem? (i := 416) (by decide +kernel)⟩
theorem lw_p11 : lw_okq (⟨"FontOutlines$CharacterMap", "hasSegments", "()Z"⟩, 4) := ⟨⟨by decide +kernel, by decide +kernel⟩, List.mem_of_getElem? (i := 77) (by decide +kernel), List.mem_of_getElem? (i := 423) (by decide +kernel), List.mem_of_getElem? (i := 424) (by decide +kernel)⟩
theorem lw_p12 : lw_okq (⟨"FontOutlines$CharacterMap", "lastOf", "(I)I"⟩, 4) := ⟨⟨by decide +kernel, by decide +kernel⟩, List.mem_of_getElem? (i := 77) (by decide +kernel), List.mem_of_getElem? (i := 427) (by decide +kernel), List.mem_of_getElem? (i := 428) (by decide +kernel)⟩
theorem lw_p13 : lw_okq (⟨"FontOutlines$CharacterMap", "firstOf", "(I)I"⟩, 4) := ⟨⟨by decide +kernel, by decide +kernel⟩, List.mem_of_getElem? (i := 77) (by decide +kernel), List.mem_of_getElem? (i := 431) (by decide +kernel), List.mem_of_getElem? (i := 432) (by decide +kernel)⟩
theorem lw_p14 : lw_okq (⟨"FontOutlines$Outline", "addsGlyph", "(LFontOutlines$Font;II)Z"⟩, 10) := ⟨⟨by decide +kernel, by decide +kernel⟩, List.mem_of_getElem? (i := 148) (by decide +kernel), List.mem_of_getElem? (i := 444) (by decide +kernel), List.mem_of_getElem? (i := 445) (by decide +kernel)⟩
theorem lw_p15 : lw_okq (⟨"FontOutlines$Outline", "addsParts", "(LFontOutlines$Font;II)Z"⟩, 10) := ⟨⟨by decide +kernel, by decide +kernel⟩, List.mem_of_getElem? (i := 148) (by decide +kernel), List.mem_of_getElem? (i := 466) (by decide +kernel), List.mem_of_getElem? (i := 467) (by decide +kernel)⟩
def lw_privs_1 : List (MethodName × Nat) := [(⟨"FontOutlines$Font", "isFile", "()Z"⟩, 15), (⟨"FontOutlines$Font", "tables", "()I"⟩, 15), (⟨"FontOutlines$Font", "hasSums", "()Z"⟩, 15), (⟨"FontOutlines$Font", "layByEntry", "(LFontOutlines$Table;I)V"⟩, 15), (⟨"FontOutlines$Font", "sum", "(LFontOutlines$Table;)J"⟩, 15), (⟨"FontOutlines$Font", "hasTables", "()Z"⟩, 15), (⟨"FontOutlines$Font", "finds", "(LFontOutlines$Table;I)Z"⟩, 15), (⟨"FontOutlines$Font", "hasCounts", "()Z"⟩, 15), (⟨"FontOutlines$Font", "hasPlaces", "()Z"⟩, 15), (⟨"FontOutlines$CharacterMap", "firstEntry", "(II)I"⟩, 4), (⟨"FontOutlines$CharacterMap", "hasGroups", "()Z"⟩, 4), (⟨"FontOutlines$CharacterMap", "hasSegments", "()Z"⟩, 4), (⟨"FontOutlines$CharacterMap", "lastOf", "(I)I"⟩, 4), (⟨"FontOutlines$CharacterMap", "firstOf", "(I)I"⟩, 4), (⟨"FontOutlines$Outline", "addsGlyph", "(LFontOutlines$Font;II)Z"⟩, 10), (⟨"FontOutlines$Outline", "addsParts", "(LFontOutlines$Font;II)Z"⟩, 10)]
theorem lw_r1 : ∀ q ∈ lw_privs_1, lw_okq q := List.forall_mem_cons.mpr ⟨lw_p0, List.forall_mem_cons.mpr ⟨lw_p1, List.forall_mem_cons.mpr ⟨lw_p2, List.forall_mem_cons.mpr ⟨lw_p3, List.forall_mem_cons.mpr ⟨lw_p4, List.forall_mem_cons.mpr ⟨lw_p5, List.forall_mem_cons.mpr ⟨lw_p6, List.forall_mem_cons.mpr ⟨lw_p7, List.forall_mem_cons.mpr ⟨lw_p8, List.forall_mem_cons.mpr ⟨lw_p9, List.forall_mem_cons.mpr ⟨lw_p10, List.forall_mem_cons.mpr ⟨lw_p11, List.forall_mem_cons.mpr ⟨lw_p12, List.forall_mem_cons.mpr ⟨lw_p13, List.forall_mem_cons.mpr ⟨lw_p14, List.forall_mem_cons.mpr ⟨lw_p15, fun _ h => absurd h List.not_mem_nil⟩⟩⟩⟩⟩⟩⟩⟩⟩⟩⟩⟩⟩⟩⟩⟩
theorem lw_p16 : lw_okq (⟨"FontOutlines$Part", "number", "()I"⟩, 9) := ⟨⟨by decide +kernel, by decide +kernel⟩, List.mem_of_getElem? (i := 177) (by decide +kernel), List.mem_of_getElem? (i := 475) (by decide +kernel), List.mem_of_getElem? (i := 476) (by decide +kernel)⟩
theorem lw_p17 : lw_okq (⟨"FontOutlines$Part", "readFactors", "()V"⟩, 9) := ⟨⟨by decide +kernel, by decide +kernel⟩, List.mem_of_getElem? (i := 177) (by decide +kernel), List.mem_of_getElem? (i := 487) (by decide +kernel), List.mem_of_getElem? (i := 488) (by decide +kernel)⟩
theorem lw_p18 : lw_okq (⟨"FontOutlines$Outline", "isLaid", "(LFontOutlines$Part;II)Z"⟩, 10) := ⟨⟨by decide +kernel, by decide +kernel⟩, List.mem_of_getElem? (i := 148) (by decide +kernel), List.mem_of_getElem? (i := 497) (by decide +kernel), List.mem_of_getElem? (i := 498) (by decide +kernel)⟩
theorem lw_p19 : lw_okq (⟨"FontOutlines$Outline", "isCoordinate", "(I)Z"⟩, 10) := ⟨⟨by decide +kernel, by decide +kernel⟩, List.mem_of_getElem? (i := 148) (by decide +kernel), List.mem_of_getElem? (i := 510) (by decide +kernel), List.mem_of_getElem? (i := 511) (by decide +kernel)⟩
theorem lw_p20 : lw_okq (⟨"FontOutlines$Outline", "addsSimple", "(I)Z"⟩, 10) := ⟨⟨by decide +kernel, by decide +kernel⟩, List.mem_of_getElem? (i := 148) (by decide +kernel), List.mem_of_getElem? (i := 514) (by decide +kernel), List.mem_of_getElem? (i := 515) (by decide +kernel)⟩
theorem lw_p21 : lw_okq (⟨"FontOutlines$Outline", "addsContours", "(I)Z"⟩, 10) := ⟨⟨by decide +kernel, by decide +kernel⟩, List.mem_of_getElem? (i := 148) (by decide +kernel), List.mem_of_getElem? (i := 518) (by decide +kernel), List.mem_of_getElem? (i := 519) (by decide +kernel)⟩
theorem lw_p22 : lw_okq (⟨"FontOutlines$Outline", "readsFlags", "(I)Z"⟩, 10) := ⟨⟨by decide +kernel, by decide +kernel⟩, List.mem_of_getElem? (i := 148) (by decide +kernel), List.mem_of_getElem? (i := 522) (by decide +kernel), List.mem_of_getElem? (i := 523) (by decide +kernel)⟩
theorem lw_p23 : lw_okq (⟨"FontOutlines$Outline", "readsAxis", "([IIII)Z"⟩, 10) := ⟨⟨by decide +kernel, by decide +kernel⟩, List.mem_of_getElem? (i := 148) (by decide +kernel), List.mem_of_getElem? (i := 527) (by decide +kernel), List.mem_of_getElem? (i := 528) (by decide +kernel)⟩
theorem lw_p24 : lw_okq (⟨"java/lang/Throwable", "fillInStackTrace", "(I)Ljava/lang/Throwable;"⟩, 6) := ⟨⟨by decide +kernel, by decide +kernel⟩, List.mem_of_getElem? (i := 578) (by decide +kernel), List.mem_of_getElem? (i := 576) (by decide +kernel), List.mem_of_getElem? (i := 577) (by decide +kernel)⟩
theorem lw_p25 : lw_okq (⟨"FontOutlines", "needFont", "()V"⟩, 6) := ⟨⟨by decide +kernel, by decide +kernel⟩, List.mem_of_getElem? (i := 21) (by decide +kernel), List.mem_of_getElem? (i := 643) (by decide +kernel), List.mem_of_getElem? (i := 644) (by decide +kernel)⟩
theorem lw_p26 : lw_okq (⟨"FontOutlines$CharacterMap", "glyphByGroups", "(I)J"⟩, 4) := ⟨⟨by decide +kernel, by decide +kernel⟩, List.mem_of_getElem? (i := 77) (by decide +kernel), List.mem_of_getElem? (i := 669) (by decide +kernel), List.mem_of_getElem? (i := 670) (by decide +kernel)⟩
theorem lw_p27 : lw_okq (⟨"FontOutlines$CharacterMap", "glyphBySegments", "(I)I"⟩, 4) := ⟨⟨by decide +kernel, by decide +kernel⟩, List.mem_of_getElem? (i := 77) (by decide +kernel), List.mem_of_getElem? (i := 674) (by decide +kernel), List.mem_of_getElem? (i := 675) (by decide +kernel)⟩
theorem lw_p28 : lw_okq (⟨"FontOutlines$CharacterMap", "glyphBySegment", "(II)I"⟩, 4) := ⟨⟨by decide +kernel, by decide +kernel⟩, List.mem_of_getElem? (i := 77) (by decide +kernel), List.mem_of_getElem? (i := 678) (by decide +kernel), List.mem_of_getElem? (i := 679) (by decide +kernel)⟩
theorem lw_p29 : lw_okq (⟨"FontOutlines", "isGlyph", "(I)Z"⟩, 6) := ⟨⟨by decide +kernel, by decide +kernel⟩, List.mem_of_getElem? (i := 21) (by decide +kernel), List.mem_of_getElem? (i := 690) (by decide +kernel), List.mem_of_getElem? (i := 691) (by decide +kernel)⟩
theorem lw_p30 : lw_okq (⟨"FontOutlines", "show", "(I)V"⟩, 6) := ⟨⟨by decide +kernel, by decide +kernel⟩, List.mem_of_getElem? (i := 21) (by decide +kernel), List.mem_of_getElem? (i := 695) (by decide +kernel), List.mem_of_getElem? (i := 696) (by decide +kernel)⟩
theorem lw_p31 : lw_okq (⟨"FontOutlinesModel", "put4", "(I)V"⟩, 32) := ⟨⟨by decide +kernel, by decide +kernel⟩, List.mem_of_getElem? (i := 741) (by decide +kernel), List.mem_of_getElem? (i := 860) (by decide +kernel), List.mem_of_getElem? (i := 861) (by decide +kernel)⟩
def lw_privs_2 : List (MethodName × Nat) := [(⟨"FontOutlines$Part", "number", "()I"⟩, 9), (⟨"FontOutlines$Part", "readFactors", "()V"⟩, 9), (⟨"FontOutlines$Outline", "isLaid", "(LFontOutlines$Part;II)Z"⟩, 10), (⟨"FontOutlines$Outline", "isCoordinate", "(I)Z"⟩, 10), (⟨"FontOutlines$Outline", "addsSimple", "(I)Z"⟩, 10), (⟨"FontOutlines$Outline", "addsContours", "(I)Z"⟩, 10), (⟨"FontOutlines$Outline", "readsFlags", "(I)Z"⟩, 10), (⟨"FontOutlines$Outline", "readsAxis", "([IIII)Z"⟩, 10), (⟨"java/lang/Throwable", "fillInStackTrace", "(I)Ljava/lang/Throwable;"⟩, 6), (⟨"FontOutlines", "needFont", "()V"⟩, 6), (⟨"FontOutlines$CharacterMap", "glyphByGroups", "(I)J"⟩, 4), (⟨"FontOutlines$CharacterMap", "glyphBySegments", "(I)I"⟩, 4), (⟨"FontOutlines$CharacterMap", "glyphBySegment", "(II)I"⟩, 4), (⟨"FontOutlines", "isGlyph", "(I)Z"⟩, 6), (⟨"FontOutlines", "show", "(I)V"⟩, 6), (⟨"FontOutlinesModel", "put4", "(I)V"⟩, 32)]
theorem lw_r2 : ∀ q ∈ lw_privs_2, lw_okq q := List.forall_mem_cons.mpr ⟨lw_p16, List.forall_mem_cons.mpr ⟨lw_p17, List.forall_mem_cons.mpr ⟨lw_p18, List.forall_mem_cons.mpr ⟨lw_p19, List.forall_mem_cons.mpr ⟨lw_p20, List.forall_mem_cons.mpr ⟨lw_p21, List.forall_mem_cons.mpr ⟨lw_p22, List.forall_mem_cons.mpr ⟨lw_p23, List.forall_mem_cons.mpr ⟨lw_p24, List.forall_mem_cons.mpr ⟨lw_p25, List.forall_mem_cons.mpr ⟨lw_p26, List.forall_mem_cons.mpr ⟨lw_p27, List.forall_mem_cons.mpr ⟨lw_p28, List.forall_mem_cons.mpr ⟨lw_p29, List.forall_mem_cons.mpr ⟨lw_p30, List.forall_mem_cons.mpr ⟨lw_p31, fun _ h => absurd h List.not_mem_nil⟩⟩⟩⟩⟩⟩⟩⟩⟩⟩⟩⟩⟩⟩⟩⟩
theorem lw_p32 : lw_okq (⟨"FontOutlinesModel", "refused", "(I)Z"⟩, 32) := ⟨⟨by decide +kernel, by decide +kernel⟩, List.mem_of_getElem? (i := 741) (by decide +kernel), List.mem_of_getElem? (i := 868) (by decide +kernel), List.mem_of_getElem? (i := 869) (by decide +kernel)⟩
theorem lw_p33 : lw_okq (⟨"FontOutlinesModel", "checkFile", "()V"⟩, 32) := ⟨⟨by decide +kernel, by decide +kernel⟩, List.mem_of_getElem? (i := 741) (by decide +kernel), List.mem_of_getElem? (i := 884) (by decide +kernel), List.mem_of_getElem? (i := 885) (by decide +kernel)⟩
theorem lw_p34 : lw_okq (⟨"FontOutlinesModel", "u32", "(IJJ)J"⟩, 32) := ⟨⟨by decide +kernel, by decide +kernel⟩, List.mem_of_getElem? (i := 741) (by decide +kernel), List.mem_of_getElem? (i := 888) (by decide +kernel), List.mem_of_getElem? (i := 889) (by decide +kernel)⟩
theorem lw_p35 : lw_okq (⟨"FontOutlinesModel", "u16", "(IJJ)I"⟩, 32) := ⟨⟨by decide +kernel, by decide +kernel⟩, List.mem_of_getElem? (i := 741) (by decide +kernel), List.mem_of_getElem? (i := 893) (by decide +kernel), List.mem_of_getElem? (i := 894) (by decide +kernel)⟩
theorem lw_p36 : lw_okq (⟨"FontOutlinesModel", "u8", "(IJJ)I"⟩, 32) := ⟨⟨by decide +kernel, by decide +kernel⟩, List.mem_of_getElem? (i := 741) (by decide +kernel), List.mem_of_getElem? (i := 897) (by decide +kernel), List.mem_of_getElem? (i := 898) (by decide +kernel)⟩
theorem lw_p37 : lw_okq (⟨"FontOutlinesModel", "need", "(Z)V"⟩, 32) := ⟨⟨by decide +kernel, by decide +kernel⟩, List.mem_of_getElem? (i := 741) (by decide +kernel), List.mem_of_getElem? (i := 901) (by decide +kernel), List.mem_of_getElem? (i := 902) (by decide +kernel)⟩
theorem lw_p38 : lw_okq (⟨"FontOutlinesModel", "tables", "()I"⟩, 32) := ⟨⟨by decide +kernel, by decide +kernel⟩, List.mem_of_getElem? (i := 741) (by decide +kernel), List.mem_of_getElem? (i := 906) (by decide +kernel), List.mem_of_getElem? (i := 907) (by decide +kernel)⟩
theorem lw_p39 : lw_okq (⟨"FontOutlinesModel", "checkSums", "()V"⟩, 32) := ⟨⟨by decide +kernel, by decide +kernel⟩, List.mem_of_getElem? (i := 741) (by decide +kernel), List.mem_of_getElem? (i := 915) (by decide +kernel), List.mem_of_getElem? (i := 916) (by decide +kernel)⟩
theorem lw_p40 : lw_okq (⟨"FontOutlinesModel", "sumOf", "(JJ)J"⟩, 32) := ⟨⟨by decide +kernel, by decide +kernel⟩, List.mem_of_getElem? (i := 741) (by decide +kernel), List.mem_of_getElem? (i := 919) (by decide +kernel), List.mem_of_getElem? (i := 920) (by decide +kernel)⟩
theorem lw_p41 : lw_okq (⟨"FontOutlinesModel", "findTables", "()V"⟩, 32) := ⟨⟨by decide +kernel, by decide +kernel⟩, List.mem_of_getElem? (i := 741) (by decide +kernel), List.mem_of_getElem? (i := 925) (by decide +kernel), List.mem_of_getElem? (i := 926) (by decide +kernel)⟩
theorem lw_p42 : lw_okq (⟨"FontOutlinesModel", "checkForms", "()V"⟩, 32) := ⟨⟨by decide +kernel, by decide +kernel⟩, List.mem_of_getElem? (i := 741) (by decide +kernel), List.mem_of_getElem? (i := 929) (by decide +kernel), List.mem_of_getElem? (i := 930) (by decide +kernel)⟩
theorem lw_p43 : lw_okq (⟨"FontOutlinesModel", "t16", "(IJ)I"⟩, 32) := ⟨⟨by decide +kernel, by decide +kernel⟩, List.mem_of_getElem? (i := 741) (by decide +kernel), List.mem_of_getElem? (i := 934) (by decide +kernel), List.mem_of_getElem? (i := 935) (by decide +kernel)⟩
theorem lw_p44 : lw_okq (⟨"FontOutlinesModel", "tableAt", "(I)I"⟩, 32) := ⟨⟨by decide +kernel, by decide +kernel⟩, List.mem_of_getElem? (i := 741) (by decide +kernel), List.mem_of_getElem? (i := 938) (by decide +kernel), List.mem_of_getElem? (i := 939) (by decide +kernel)⟩
theorem lw_p45 : lw_okq (⟨"FontOutlinesModel", "tableLength", "(I)I"⟩, 32) := ⟨⟨by decide +kernel, by decide +kernel⟩, List.mem_of_getElem? (i := 741) (by decide +kernel), List.mem_of_getElem? (i := 942) (by decide +kernel), List.mem_of_getElem? (i := 943) (by decide +kernel)⟩
theorem lw_p46 : lw_okq (⟨"FontOutlinesModel", "glyphCount", "()I"⟩, 32) := ⟨⟨by decide +kernel, by decide +kernel⟩, List.mem_of_getElem? (i := 741) (by decide +kernel), List.mem_of_getElem? (i := 947) (by decide +kernel), List.mem_of_getElem? (i := 948) (by decide +kernel)⟩
theorem lw_p47 : lw_okq (⟨"FontOutlinesModel", "longCount", "()I"⟩, 32) := ⟨⟨by decide +kernel, by decide +kernel⟩, List.mem_of_getElem? (i := 741) (by decide +kernel), List.mem_of_getElem? (i := 951) (by decide +kernel), List.mem_of_getElem? (i := 952) (by decide +kernel)⟩
def lw_privs_3 : List (MethodName × Nat) := [(⟨"FontOutlinesModel", "refused", "(I)Z"⟩, 32), (⟨"FontOutlinesModel", "checkFile", "()V"⟩, 32), (⟨"FontOutlinesModel", "u32", "(IJJ)J"⟩, 32), (⟨"FontOutlinesModel", "u16", "(IJJ)I"⟩, 32), (⟨"FontOutlinesModel", "u8", "(IJJ)I"⟩, 32), (⟨"FontOutlinesModel", "need", "(Z)V"⟩, 32), (⟨"FontOutlinesModel", "tables", "()I"⟩, 32), (⟨"FontOutlinesModel", "checkSums", "()V"⟩, 32), (⟨"FontOutlinesModel", "sumOf", "(JJ)J"⟩, 32), (⟨"FontOutlinesModel", "findTables", "()V"⟩, 32), (⟨"FontOutlinesModel", "checkForms", "()V"⟩, 32), (⟨"FontOutlinesModel", "t16", "(IJ)I"⟩, 32), (⟨"FontOutlinesModel", "tableAt", "(I)I"⟩, 32), (⟨"FontOutlinesModel", "tableLength", "(I)I"⟩, 32), (⟨"FontOutlinesModel", "glyphCount", "()I"⟩, 32), (⟨"FontOutlinesModel", "longCount", "()I"⟩, 32)]
theorem lw_r3 : ∀ q ∈ lw_privs_3, lw_okq q := List.forall_mem_cons.mpr ⟨lw_p32, List.forall_mem_cons.mpr ⟨lw_p33, List.forall_mem_cons.mpr ⟨lw_p34, List.forall_mem_cons.mpr ⟨lw_p35, List.forall_mem_cons.mpr ⟨lw_p36, List.forall_mem_cons.mpr ⟨lw_p37, List.forall_mem_cons.mpr ⟨lw_p38, List.forall_mem_cons.mpr ⟨lw_p39, List.forall_mem_cons.mpr ⟨lw_p40, List.forall_mem_cons.mpr ⟨lw_p41, List.forall_mem_cons.mpr ⟨lw_p42, List.forall_mem_cons.mpr ⟨lw_p43, List.forall_mem_cons.mpr ⟨lw_p44, List.forall_mem_cons.mpr ⟨lw_p45, List.forall_mem_cons.mpr ⟨lw_p46, List.forall_mem_cons.mpr ⟨lw_p47, fun _ h => absurd h List.not_mem_nil⟩⟩⟩⟩⟩⟩⟩⟩⟩⟩⟩⟩⟩⟩⟩⟩
theorem lw_p48 : lw_okq (⟨"FontOutlinesModel", "dataAt", "(I)J"⟩, 32) := ⟨⟨by decide +kernel, by decide +kernel⟩, List.mem_of_getElem? (i := 741) (by decide +kernel), List.mem_of_getElem? (i := 956) (by decide +kernel), List.mem_of_getElem? (i := 957) (by decide +kernel)⟩
theorem lw_p49 : lw_okq (⟨"FontOutlinesModel", "t32", "(IJ)J"⟩, 32) := ⟨⟨by decide +kernel, by decide +kernel⟩, List.mem_of_getElem? (i := 741) (by decide +kernel), List.mem_of_getElem? (i := 960) (by decide +kernel), List.mem_of_getElem? (i := 961) (by decide +kernel)⟩
theorem lw_p50 : lw_okq (⟨"FontOutlinesModel", "checkMap", "()V"⟩, 32) := ⟨⟨by decide +kernel, by decide +kernel⟩, List.mem_of_getElem? (i := 741) (by decide +kernel), List.mem_of_getElem? (i := 964) (by decide +kernel), List.mem_of_getElem? (i := 965) (by decide +kernel)⟩
theorem lw_p51 : lw_okq (⟨"FontOutlinesModel", "hasMap", "(Z)Z"⟩, 32) := ⟨⟨by decide +kernel, by decide +kernel⟩, List.mem_of_getElem? (i := 741) (by decide +kernel), List.mem_of_getElem? (i := 968) (by decide +kernel), List.mem_of_getElem? (i := 969) (by decide +kernel)⟩
theorem lw_p52 : lw_okq (⟨"FontOutlinesModel", "mapAt", "(Z)J"⟩, 32) := ⟨⟨by decide +kernel, by decide +kernel⟩, List.mem_of_getElem? (i := 741) (by decide +kernel), List.mem_of_getElem? (i := 972) (by decide +kernel), List.mem_of_getElem? (i := 973) (by decide +kernel)⟩
theorem lw_p53 : lw_okq (⟨"FontOutlinesModel", "checkGroups", "(J)V"⟩, 32) := ⟨⟨by decide +kernel, by decide +kernel⟩, List.mem_of_getElem? (i := 741) (by decide +kernel), List.mem_of_getElem? (i := 976) (by decide +kernel), List.mem_of_getElem? (i := 977) (by decide +kernel)⟩
theorem lw_p54 : lw_okq (⟨"FontOutlinesModel", "checkSegments", "(J)V"⟩, 32) := ⟨⟨by decide +kernel, by decide +kernel⟩, List.mem_of_getElem? (i := 741) (by decide +kernel), List.mem_of_getElem? (i := 981) (by decide +kernel), List.mem_of_getElem? (i := 982) (by decide +kernel)⟩
theorem lw_p55 : lw_okq (⟨"FontOutlinesModel", "checkGlyphs", "()V"⟩, 32) := ⟨⟨by decide +kernel, by decide +kernel⟩, List.mem_of_getElem? (i := 741) (by decide +kernel), List.mem_of_getElem? (i := 989) (by decide +kernel), List.mem_of_getElem? (i := 990) (by decide +kernel)⟩
theorem lw_p56 : lw_okq (⟨"FontOutlinesModel", "readGlyph", "(I)V"⟩, 32) := ⟨⟨by decide +kernel, by decide +kernel⟩, List.mem_of_getElem? (i := 741) (by decide +kernel), List.mem_of_getElem? (i := 993) (by decide +kernel), List.mem_of_getElem? (i := 994) (by decide +kernel)⟩
theorem lw_p57 : lw_okq (⟨"FontOutlinesModel", "begin", "(II)V"⟩, 32) := ⟨⟨by decide +kernel, by decide +kernel⟩, List.mem_of_getElem? (i := 741) (by decide +kernel), List.mem_of_getElem? (i := 997) (by decide +kernel), List.mem_of_getElem? (i := 998) (by decide +kernel)⟩
theorem lw_p58 : lw_okq (⟨"FontOutlinesModel", "s16", "(IJJ)I"⟩, 32) := ⟨⟨by decide +kernel, by decide +kernel⟩, List.mem_of_getElem? (i := 741) (by decide +kernel), List.mem_of_getElem? (i := 1001) (by decide +kernel), List.mem_of_getElem? (i := 1002) (by decide +kernel)⟩
theorem lw_p59 : lw_okq (⟨"FontOutlinesModel", "readSimple", "(IIII)V"⟩, 32) := ⟨⟨by decide +kernel, by decide +kernel⟩, List.mem_of_getElem? (i := 741) (by decide +kernel), List.mem_of_getElem? (i := 1006) (by decide +kernel), List.mem_of_getElem? (i := 1007) (by decide +kernel)⟩
theorem lw_p60 : lw_okq (⟨"FontOutlinesModel", "readFlags", "(IIJII)J"⟩, 32) := ⟨⟨by decide +kernel, by decide +kernel⟩, List.mem_of_getElem? (i := 741) (by decide +kernel), List.mem_of_getElem? (i := 1011) (by decide +kernel), List.mem_of_getElem? (i := 1012) (by decide +kernel)⟩
theorem lw_p61 : lw_okq (⟨"FontOutlinesModel", "readSteps", "(IIJIIZ)J"⟩, 32) := ⟨⟨by decide +kernel, by decide +kernel⟩, List.mem_of_getElem? (i := 741) (by decide +kernel), List.mem_of_getElem? (i := 1015) (by decide +kernel), List.mem_of_getElem? (i := 1016) (by decide +kernel)⟩
theorem lw_p62 : lw_okq (⟨"FontOutlinesModel", "readPart", "(I)I"⟩, 32) := ⟨⟨by decide +kernel, by decide +kernel⟩, List.mem_of_getElem? (i := 741) (by decide +kernel), List.mem_of_getElem? (i := 1024) (by decide +kernel), List.mem_of_getElem? (i := 1025) (by decide +kernel)⟩
theorem lw_p63 : lw_okq (⟨"FontOutlinesModel", "number", "(IJZZ)I"⟩, 32) := ⟨⟨by decide +kernel, by decide +kernel⟩, List.mem_of_getElem? (i := 741) (by decide +kernel), List.mem_of_getElem? (i := 1028) (by decide +kernel), List.mem_of_getElem? (i := 1029) (by decide +kernel)⟩
def lw_privs_4 : List (MethodName × Nat) := [(⟨"FontOutlinesModel", "dataAt", "(I)J"⟩, 32), (⟨"FontOutlinesModel", "t32", "(IJ)J"⟩, 32), (⟨"FontOutlinesModel", "checkMap", "()V"⟩, 32), (⟨"FontOutlinesModel", "hasMap", "(Z)Z"⟩, 32), (⟨"FontOutlinesModel", "mapAt", "(Z)J"⟩, 32), (⟨"FontOutlinesModel", "checkGroups", "(J)V"⟩, 32), (⟨"FontOutlinesModel", "checkSegments", "(J)V"⟩, 32), (⟨"FontOutlinesModel", "checkGlyphs", "()V"⟩, 32), (⟨"FontOutlinesModel", "readGlyph", "(I)V"⟩, 32), (⟨"FontOutlinesModel", "begin", "(II)V"⟩, 32), (⟨"FontOutlinesModel", "s16", "(IJJ)I"⟩, 32), (⟨"FontOutlinesModel", "readSimple", "(IIII)V"⟩, 32), (⟨"FontOutlinesModel", "readFlags", "(IIJII)J"⟩, 32), (⟨"FontOutlinesModel", "readSteps", "(IIJIIZ)J"⟩, 32), (⟨"FontOutlinesModel", "readPart", "(I)I"⟩, 32), (⟨"FontOutlinesModel", "number", "(IJZZ)I"⟩, 32)]
theorem lw_r4 : ∀ q ∈ lw_privs_4, lw_okq q := List.forall_mem_cons.mpr ⟨lw_p48, List.forall_mem_cons.mpr ⟨lw_p49, List.forall_mem_cons.mpr ⟨lw_p50, List.forall_mem_cons.mpr ⟨lw_p51, List.forall_mem_cons.mpr ⟨lw_p52, List.forall_mem_cons.mpr ⟨lw_p53, List.forall_mem_cons.mpr ⟨lw_p54, List.forall_mem_cons.mpr ⟨lw_p55, List.forall_mem_cons.mpr ⟨lw_p56, List.forall_mem_cons.mpr ⟨lw_p57, List.forall_mem_cons.mpr ⟨lw_p58, List.forall_mem_cons.mpr ⟨lw_p59, List.forall_mem_cons.mpr ⟨lw_p60, List.forall_mem_cons.mpr ⟨lw_p61, List.forall_mem_cons.mpr ⟨lw_p62, List.forall_mem_cons.mpr ⟨lw_p63, fun _ h => absurd h List.not_mem_nil⟩⟩⟩⟩⟩⟩⟩⟩⟩⟩⟩⟩⟩⟩⟩⟩
theorem lw_p64 : lw_okq (⟨"FontOutlinesModel", "f16", "(IJ)I"⟩, 32) := ⟨⟨by decide +kernel, by decide +kernel⟩, List.mem_of_getElem? (i := 741) (by decide +kernel), List.mem_of_getElem? (i := 1034) (by decide +kernel), List.mem_of_getElem? (i := 1035) (by decide +kernel)⟩
theorem lw_p65 : lw_okq (⟨"FontOutlinesModel", "join", "(I)V"⟩, 32) := ⟨⟨by decide +kernel, by decide +kernel⟩, List.mem_of_getElem? (i := 741) (by decide +kernel), List.mem_of_getElem? (i := 1038) (by decide +kernel), List.mem_of_getElem? (i := 1039) (by decide +kernel)⟩
theorem lw_p66 : lw_okq (⟨"FontOutlinesModel", "groupGlyph", "(I)I"⟩, 32) := ⟨⟨by decide +kernel, by decide +kernel⟩, List.mem_of_getElem? (i := 741) (by decide +kernel), List.mem_of_getElem? (i := 1051) (by decide +kernel), List.mem_of_getElem? (i := 1052) (by decide +kernel)⟩
theorem lw_p67 : lw_okq (⟨"FontOutlinesModel", "segmentGlyph", "(I)I"⟩, 32) := ⟨⟨by decide +kernel, by decide +kernel⟩, List.mem_of_getElem? (i := 741) (by decide +kernel), List.mem_of_getElem? (i := 1055) (by decide +kernel), List.mem_of_getElem? (i := 1056) (by decide +kernel)⟩
theorem lw_p68 : lw_okq (⟨"FontOutlinesModel", "isGlyph", "(I)Z"⟩, 32) := ⟨⟨by decide +kernel, by decide +kernel⟩, List.mem_of_getElem? (i := 741) (by decide +kernel), List.mem_of_getElem? (i := 1063) (by decide +kernel), List.mem_of_getElem? (i := 1064) (by decide +kernel)⟩
theorem lw_p69 : lw_okq (⟨"FontOutlinesModel", "lends", "(I)I"⟩, 32) := ⟨⟨by decide +kernel, by decide +kernel⟩, List.mem_of_getElem? (i := 741) (by decide +kernel), List.mem_of_getElem? (i := 1067) (by decide +kernel), List.mem_of_getElem? (i := 1068) (by decide +kernel)⟩
theorem lw_p70 : lw_okq (⟨"FontOutlinesModel", "width", "(I)I"⟩, 32) := ⟨⟨by decide +kernel, by decide +kernel⟩, List.mem_of_getElem? (i := 741) (by decide +kernel), List.mem_of_getElem? (i := 1071) (by decide +kernel), List.mem_of_getElem? (i := 1072) (by decide +kernel)⟩
theorem lw_p71 : lw_okq (⟨"FontOutlinesModel", "left", "(I)I"⟩, 32) := ⟨⟨by decide +kernel, by decide +kernel⟩, List.mem_of_getElem? (i := 741) (by decide +kernel), List.mem_of_getElem? (i := 1075) (by decide +kernel), List.mem_of_getElem? (i := 1076) (by decide +kernel)⟩
theorem lw_p72 : lw_okq (⟨"FontOutlinesModel", "bound", "(ZZ)I"⟩, 32) := ⟨⟨by decide +kernel, by decide +kernel⟩, List.mem_of_getElem? (i := 741) (by decide +kernel), List.mem_of_getElem? (i := 1079) (by decide +kernel), List.mem_of_getElem? (i := 1080) (by decide +kernel)⟩
def lw_privs_5 : List (MethodName × Nat) := [(⟨"FontOutlinesModel", "f16", "(IJ)I"⟩, 32), (⟨"FontOutlinesModel", "join", "(I)V"⟩, 32), (⟨"FontOutlinesModel", "groupGlyph", "(I)I"⟩, 32), (⟨"FontOutlinesModel", "segmentGlyph", "(I)I"⟩, 32), (⟨"FontOutlinesModel", "isGlyph", "(I)Z"⟩, 32), (⟨"FontOutlinesModel", "lends", "(I)I"⟩, 32), (⟨"FontOutlinesModel", "width", "(I)I"⟩, 32), (⟨"FontOutlinesModel", "left", "(I)I"⟩, 32), (⟨"FontOutlinesModel", "bound", "(ZZ)I"⟩, 32)]
theorem lw_r5 : ∀ q ∈ lw_privs_5, lw_okq q := List.forall_mem_cons.mpr ⟨lw_p64, List.forall_mem_cons.mpr ⟨lw_p65, List.forall_mem_cons.mpr ⟨lw_p66, List.forall_mem_cons.mpr ⟨lw_p67, List.forall_mem_cons.mpr ⟨lw_p68, List.forall_mem_cons.mpr ⟨lw_p69, List.forall_mem_cons.mpr ⟨lw_p70, List.forall_mem_cons.mpr ⟨lw_p71, List.forall_mem_cons.mpr ⟨lw_p72, fun _ h => absurd h List.not_mem_nil⟩⟩⟩⟩⟩⟩⟩⟩⟩
def lw_privs : List (MethodName × Nat) := lw_privs_1 ++ (lw_privs_2 ++ (lw_privs_3 ++ (lw_privs_4 ++ (lw_privs_5))))
def lw_tbl : List Cond := k2_sels lw_privs ++ tables_1
theorem lw_privs_ok : ∀ q ∈ lw_privs, lw_okq q := by
  show ∀ q ∈ lw_privs_1 ++ (lw_privs_2 ++ (lw_privs_3 ++ (lw_privs_4 ++ (lw_privs_5)))), lw_okq q
  exact List.forall_mem_append.mpr ⟨lw_r1, List.forall_mem_append.mpr ⟨lw_r2, List.forall_mem_append.mpr ⟨lw_r3, List.forall_mem_append.mpr ⟨lw_r4, lw_r5⟩⟩⟩⟩
end
section
theorem q_l02 : 0 < 2 := by decide
theorem q_l12 : 1 < 2 := by decide
theorem q_l04 : 0 < 4 := by decide
theorem q_l14 : 1 < 4 := by decide
theorem q_l24 : 2 < 4 := by decide
theorem q_l34 : 3 < 4 := by decide
def q_T0 : u_T := fun k => match k with
  | 0 => ("FontOutlines$Bytes", "row", "[B", false)
  | _ => ("FontOutlines$Bytes", "size", "I", false)
def q_t0 : Nat → FieldType := fun k => match k with
  | 0 => (.array .byte)
  | _ => .int
def q_T1 : u_T := fun k => match k with
  | 0 => ("FontOutlines$CharacterMap", "cmap", "LFontOutlines$Table;", true)
  | 1 => ("FontOutlines$CharacterMap", "ofGroups", "Z", false)
  | 2 => ("FontOutlines$CharacterMap", "place", "I", false)
  | _ => ("FontOutlines$CharacterMap", "many", "I", false)
def q_t1 : Nat → FieldType := fun k => match k with
  | 0 => (.object "FontOutlines$Table")
  | 1 => .boolean
  | 2 => .int
  | _ => .int
def q_T2 : u_T := fun k => match k with
  | 0 => ("FontOutlines$Cursor", "file", "LFontOutlines$Bytes;", false)
  | 1 => ("FontOutlines$Cursor", "place", "I", false)
  | 2 => ("FontOutlines$Cursor", "end", "I", false)
  | _ => ("FontOutlines$Cursor", "ranOut", "Z", false)
def q_t2 : Nat → FieldType := fun k => match k with
  | 0 => (.object "FontOutlines$Bytes")
  | 1 => .int
  | 2 => .int
  | _ => .boolean
def q_T3 : u_T := fun k => match k with
  | 0 => ("FontOutlines$Font", "bytes", "LFontOutlines$Bytes;", true)
  | 1 => ("FontOutlines$Font", "whole", "LFontOutlines$Table;", true)
  | 2 => ("FontOutlines$Font", "summed", "LFontOutlines$Table;", true)
  | 3 => ("FontOutlines$Font", "cmap", "LFontOutlines$Table;", true)
  | 4 => ("FontOutlines$Font", "glyf", "LFontOutlines$Table;", true)
  | 5 => ("FontOutlines$Font", "head", "LFontOutlines$Table;", true)
  | 6 => ("FontOutlines$Font", "hhea", "LFontOutlines$Table;", true)
  | 7 => ("FontOutlines$Font", "hmtx", "LFontOutlines$Table;", true)
  | 8 => ("FontOutlines$Font", "loca", "LFontOutlines$Table;", true)
  | 9 => ("FontOutlines$Font", "maxp", "LFontOutlines$Table;", true)
  | 10 => ("FontOutlines$Font", "map", "LFontOutlines$CharacterMap;", true)
  | 11 => ("FontOutlines$Font", "em", "I", false)
  | 12 => ("FontOutlines$Font", "glyphs", "I", false)
  | 13 => ("FontOutlines$Font", "widths", "I", false)
  | _ => ("FontOutlines$Font", "longPlaces", "Z", false)
def q_t3 : Nat → FieldType := fun k => match k with
  | 0 => (.object "FontOutlines$Bytes")
  | 1 => (.object "FontOutlines$Table")
  | 2 => (.object "FontOutlines$Table")
  | 3 => (.object "FontOutlines$Table")
  | 4 => (.object "FontOutlines$Table")
  | 5 => (.object "FontOutlines$Table")
  | 6 => (.object "FontOutlines$Table")
  | 7 => (.object "FontOutlines$Table")
  | 8 => (.object "FontOutlines$Table")
  | 9 => (.object "FontOutlines$Table")
  | 10 => (.object "FontOutlines$CharacterMap")
  | 11 => .int
  | 12 => .int
  | 13 => .int
  | _ => .boolean
def q_T4 : u_T := fun k => match k with
  | 0 => ("FontOutlines$Outline", "x", "[I", true)
  | 1 => ("FontOutlines$Outline", "y", "[I", true)
  | 2 => ("FontOutlines$Outline", "flags", "[I", true)
  | 3 => ("FontOutlines$Outline", "contour", "[I", true)
  | 4 => ("FontOutlines$Outline", "data", "LFontOutlines$Cursor;", true)
  | 5 => ("FontOutlines$Outline", "parts", "[LFontOutlines$Part;", true)
  | 6 => ("FontOutlines$Outline", "points", "I", false)
  | 7 => ("FontOutlines$Outline", "contours", "I", false)
  | 8 => ("FontOutlines$Outline", "partsRead", "I", false)
  | _ => ("FontOutlines$Outline", "widthGlyph", "I", false)
def q_t4 : Nat → FieldType := fun k => match k with
  | 0 => (.array .int)
  | 1 => (.array .int)
  | 2 => (.array .int)
  | 3 => (.array .int)
  | 4 => (.object "FontOutlines$Cursor")
  | 5 => (.array (.object "FontOutlines$Part"))
  | 6 => .int
  | 7 => .int
  | 8 => .int
  | _ => .int
def q_T5 : u_T := fun k => match k with
  | 0 => ("FontOutlines$Part", "data", "LFontOutlines$Cursor;", true)
  | 1 => ("FontOutlines$Part", "flags", "I", false)
  | 2 => ("FontOutlines$Part", "child", "I", false)
  | 3 => ("FontOutlines$Part", "p", "I", false)
  | 4 => ("FontOutlines$Part", "q", "I", false)
  | 5 => ("FontOutlines$Part", "a", "I", false)
  | 6 => ("FontOutlines$Part", "b", "I", false)
  | 7 => ("FontOutlines$Part", "c", "I", false)
  | _ => ("FontOutlines$Part", "d", "I", false)
def q_t5 : Nat → FieldType := fun k => match k with
  | 0 => (.object "FontOutlines$Cursor")
  | 1 => .int
  | 2 => .int
  | 3 => .int
  | 4 => .int
  | 5 => .int
  | 6 => .int
  | 7 => .int
  | _ => .int
def q_T6 : u_T := fun k => match k with
  | 0 => ("FontOutlines$Table", "file", "LFontOutlines$Bytes;", true)
  | 1 => ("FontOutlines$Table", "start", "I", false)
  | _ => ("FontOutlines$Table", "length", "I", false)
def q_t6 : Nat → FieldType := fun k => match k with
  | 0 => (.object "FontOutlines$Bytes")
  | 1 => .int
  | _ => .int
def q_T7 : u_T := fun k => match k with
  | 0 => ("FontOutlines", "file", "LFontOutlines$Bytes;", true)
  | 1 => ("FontOutlines", "outline", "LFontOutlines$Outline;", true)
  | 2 => ("FontOutlines", "current", "LFontOutlines$Font;", false)
  | 3 => ("FontOutlines", "spare", "LFontOutlines$Font;", false)
  | 4 => ("FontOutlines", "loaded", "Z", false)
  | _ => ("FontOutlines", "shown", "I", false)
def q_t7 : Nat → FieldType := fun k => match k with
  | 0 => (.object "FontOutlines$Bytes")
  | 1 => (.object "FontOutlines$Outline")
  | 2 => (.object "FontOutlines$Font")
  | 3 => (.object "FontOutlines$Font")
  | 4 => .boolean
  | _ => .int
def q_T8 : u_T := fun k => match k with
  | 0 => ("FontOutlinesModel", "fault", "I", false)
  | 1 => ("FontOutlinesModel", "size", "I", false)
  | 2 => ("FontOutlinesModel", "tape", "[I", true)
  | 3 => ("FontOutlinesModel", "font", "[I", true)
  | 4 => ("FontOutlinesModel", "isFont", "Z", false)
  | 5 => ("FontOutlinesModel", "isWide", "Z", false)
  | 6 => ("FontOutlinesModel", "ofFont", "Z", false)
  | 7 => ("FontOutlinesModel", "bad", "Z", false)
  | 8 => ("FontOutlinesModel", "names", "[I", true)
  | 9 => ("FontOutlinesModel", "places", "[I", true)
  | 10 => ("FontOutlinesModel", "lengths", "[I", true)
  | 11 => ("FontOutlinesModel", "xs", "[I", true)
  | 12 => ("FontOutlinesModel", "ys", "[I", true)
  | 13 => ("FontOutlinesModel", "on", "[Z", true)
  | 14 => ("FontOutlinesModel", "contours", "[I", true)
  | 15 => ("FontOutlinesModel", "flags", "[I", true)
  | 16 => ("FontOutlinesModel", "points", "[I", true)
  | 17 => ("FontOutlinesModel", "rings", "[I", true)
  | 18 => ("FontOutlinesModel", "partCount", "[I", true)
  | 19 => ("FontOutlinesModel", "told", "[I", true)
  | 20 => ("FontOutlinesModel", "windows", "[I", true)
  | 21 => ("FontOutlinesModel", "limits", "[I", true)
  | 22 => ("FontOutlinesModel", "more", "[Z", true)
  | 23 => ("FontOutlinesModel", "partFlags", "[I", true)
  | 24 => ("FontOutlinesModel", "moveX", "[I", true)
  | 25 => ("FontOutlinesModel", "moveY", "[I", true)
  | 26 => ("FontOutlinesModel", "turnA", "[I", true)
  | 27 => ("FontOutlinesModel", "turnB", "[I", true)
  | 28 => ("FontOutlinesModel", "turnC", "[I", true)
  | 29 => ("FontOutlinesModel", "turnD", "[I", true)
  | 30 => ("FontOutlinesModel", "partsRead", "I", false)
  | _ => ("FontOutlinesModel", "lender", "I", false)
def q_t8 : Nat → FieldType := fun k => match k with
  | 0 => .int
  | 1 => .int
  | 2 => (.array .int)
  | 3 => (.array .int)
  | 4 => .boolean
  | 5 => .boolean
  | 6 => .boolean
  | 7 => .boolean
  | 8 => (.array .int)
  | 9 => (.array .int)
  | 10 => (.array .int)
  | 11 => (.array .int)
  | 12 => (.array .int)
  | 13 => (.array .boolean)
  | 14 => (.array .int)
  | 15 => (.array .int)
  | 16 => (.array .int)
  | 17 => (.array .int)
  | 18 => (.array .int)
  | 19 => (.array .int)
  | 20 => (.array .int)
  | 21 => (.array .int)
  | 22 => (.array .boolean)
  | 23 => (.array .int)
  | 24 => (.array .int)
  | 25 => (.array .int)
  | 26 => (.array .int)
  | 27 => (.array .int)
  | 28 => (.array .int)
  | 29 => (.array .int)
  | 30 => .int
  | _ => .int
def q_cl : List vw_C := [("FontOutlines$Bytes", q_T0, 2), ("FontOutlines$CharacterMap", q_T1, 4), ("FontOutlines$Cursor", q_T2, 4), ("FontOutlines$Font", q_T3, 15), ("FontOutlines$Outline", q_T4, 10), ("FontOutlines$Part", q_T5, 9), ("FontOutlines$Table", q_T6, 3), ("FontOutlines", q_T7, 6), ("FontOutlinesModel", q_T8, 32)]
def q_ow : List String := ["FontOutlines$Bytes", "FontOutlines$CharacterMap", "FontOutlines$Cursor", "FontOutlines$Font", "FontOutlines$Outline", "FontOutlines$Part", "FontOutlines$Table", "FontOutlines", "FontOutlinesModel", "FontOutlinesLaw", "java/lang/Math", "java/util/Arrays", "java/lang/Integer"]
def q_ty (ci k : Nat) : FieldType := match ci with
  | 0 => q_t0 k
  | 1 => q_t1 k
  | 2 => q_t2 k
  | 3 => q_t3 k
  | 4 => q_t4 k
  | 5 => q_t5 k
  | 6 => q_t6 k
  | 7 => q_t7 k
  | _ => q_t8 k
def q_has (i : Nat) (w : Cond) : Bool := (match lw_tbl[i]? with | some v => decide (v = w) | none => false) && goodWord w
def q_tbl : List Cond := lw_tbl.filter goodWord
theorem q_has_in {i : Nat} {w : Cond} (h : q_has i w = true) : w ∈ q_tbl := by
  unfold q_has at h
  rw [Bool.and_eq_true] at h
  obtain ⟨h1, h2⟩ := h
  cases hc : lw_tbl[i]? with
  | none => rw [hc] at h1; cases h1
  | some v =>
    rw [hc] at h1
    have e : v = w := of_decide_eq_true h1
    subst e
    exact List.mem_filter.mpr ⟨List.mem_of_getElem? hc, h2⟩
def q_hasL : List Nat → List Cond → Bool
  | [], [] => true
  | i :: is, w :: ws => q_has i w && q_hasL is ws
  | _, _ => false
theorem q_hasL_in : ∀ (is : List Nat) (ws : List Cond), q_hasL is ws = true → ∀ w ∈ ws, w ∈ q_tbl
  | [], [], _ => fun w h => by cases h
  | i :: is, w :: ws, h => fun v hv => by
    simp only [q_hasL, Bool.and_eq_true] at h
    rcases List.mem_cons.mp hv with rfl | hv
    · exact q_has_in h.1
    · exact q_hasL_in is ws h.2 v hv
  | [], _ :: _, h => by cases h
  | _ :: _, [], h => by cases h
theorem q_ci0 : ∀ w ∈ u_ws "FontOutlines$Bytes" q_T0 2, w ∈ q_tbl := q_hasL_in [115, 117] _ (by decide +kernel)
theorem q_ci1 : ∀ w ∈ u_ws "FontOutlines$CharacterMap" q_T1 4, w ∈ q_tbl := q_hasL_in [160, 162, 164, 166] _ (by decide +kernel)
theorem q_ci2 : ∀ w ∈ u_ws "FontOutlines$Cursor" q_T2 4, w ∈ q_tbl := q_hasL_in [238, 240, 242, 244] _ (by decide +kernel)
theorem q_ci3 : ∀ w ∈ u_ws "FontOutlines$Font" q_T3 15, w ∈ q_tbl := q_hasL_in [189, 191, 193, 195, 197, 199, 201, 203, 205, 207, 209, 211, 213, 215, 217] _ (by decide +kernel)
theorem q_ci4 : ∀ w ∈ u_ws "FontOutlines$Outline" q_T4 10, w ∈ q_tbl := q_hasL_in [306, 308, 310, 312, 314, 316, 318, 320, 322, 324] _ (by decide +kernel)
theorem q_ci5 : ∀ w ∈ u_ws "FontOutlines$Part" q_T5 9, w ∈ q_tbl := q_hasL_in [270, 272, 274, 276, 278, 280, 282, 284, 286] _ (by decide +kernel)
theorem q_ci6 : ∀ w ∈ u_ws "FontOutlines$Table" q_T6 3, w ∈ q_tbl := q_hasL_in [142, 144, 146] _ (by decide +kernel)
theorem q_ci7 : ∀ w ∈ u_ws "FontOutlines" q_T7 6, w ∈ q_tbl := q_hasL_in [333, 335, 337, 339, 341, 343] _ (by decide +kernel)
theorem q_ci8 : ∀ w ∈ u_ws "FontOutlinesModel" q_T8 32, w ∈ q_tbl := q_hasL_in [858, 860, 862, 864, 866, 868, 870, 872, 874, 876, 878, 880, 882, 884, 886, 888, 890, 892, 894, 896, 898, 900, 902, 904, 906, 908, 910, 912, 914, 916, 918, 920] _ (by decide +kernel)
theorem q_cok : ∀ (ci : Nat) (C : String) (T : u_T) (N : Nat), q_cl[ci]? = some (C, T, N) → (∀ w ∈ u_ws C T N, w ∈ q_tbl) ∧ (∀ k, k < N → parseFieldDescriptor (T k).2.2.1 = some (q_ty ci k)) ∧ (∀ a, a < N → ∀ b, b < N → a ≠ b → (T a).2.1 ≠ (T b).2.1) ∧ (∀ k, k < N → (T k).1 = C) := by
  intro ci C T N h
  match ci, h with
  | 0, h => cases h; exact ⟨q_ci0, by decide +kernel, by decide +kernel, by decide +kernel⟩
  | 1, h => cases h; exact ⟨q_ci1, by decide +kernel, by decide +kernel, by decide +kernel⟩
  | 2, h => cases h; exact ⟨q_ci2, by decide +kernel, by decide +kernel, by decide +kernel⟩
  | 3, h => cases h; exact ⟨q_ci3, by decide +kernel, by decide +kernel, by decide +kernel⟩
  | 4, h => cases h; exact ⟨q_ci4, by decide +kernel, by decide +kernel, by decide +kernel⟩
  | 5, h => cases h; exact ⟨q_ci5, by decide +kernel, by decide +kernel, by decide +kernel⟩
  | 6, h => cases h; exact ⟨q_ci6, by decide +kernel, by decide +kernel, by decide +kernel⟩
  | 7, h => cases h; exact ⟨q_ci7, by decide +kernel, by decide +kernel, by decide +kernel⟩
  | 8, h => cases h; exact ⟨q_ci8, by decide +kernel, by decide +kernel, by decide +kernel⟩
  | ci + 9, h => cases h
abbrev q_MT : Type := Nat × Nat
def q_cd (i : Nat) : MethodName × ByteArray × Nat × Option FieldType := match lw_tbl[i]? with
  | some (.code y b n r) => (y, b, n, r)
  | _ => (⟨"", "", ""⟩, ⟨#[]⟩, 0, none)
def q_isC (i : Nat) : Bool := match lw_tbl[i]? with
  | some (.code _ _ _ _) => true
  | _ => false
def q_y (M : q_MT) : MethodName := (q_cd M.2).1
def q_b (M : q_MT) : ByteArray := (q_cd M.2).2.1
def q_ln (M : q_MT) : Nat := (q_cd M.2).2.2.1
def q_r (M : q_MT) : Option FieldType := (q_cd M.2).2.2.2
theorem q_isC_in {i : Nat} (h : q_isC i = true) : Cond.code (q_cd i).1 (q_cd i).2.1 (q_cd i).2.2.1 (q_cd i).2.2.2 ∈ q_tbl := by
  unfold q_isC at h
  unfold q_cd
  cases hc : lw_tbl[i]? with
  | none => rw [hc] at h; cases h
  | some w =>
    rw [hc] at h
    cases w <;> first | exact List.mem_filter.mpr ⟨List.mem_of_getElem? hc, rfl⟩ | cases h
def q_okM (M : q_MT) : Bool := q_isC M.2 && decide (q_ow[M.1]? = some (q_y M).cls) && plainName (q_y M).cls && decide (q_ln M + 19 ≤ 64) && decide ((q_y M).cls ≠ "java/lang/invoke/MethodHandle" ∧ (q_y M).cls ≠ "java/lang/invoke/VarHandle")
def M_FO_init : q_MT := (7, 97)
theorem L_FO_init : q_ln M_FO_init = 1 := by decide +kernel
theorem r_FO_init : q_r M_FO_init = none := by decide +kernel
def M_By_init : q_MT := (0, 105)
theorem L_By_init : q_ln M_By_init = 1 := by decide +kernel
theorem r_By_init : q_r M_By_init = none := by decide +kernel
def M_Fo_init : q_MT := (3, 125)
theorem L_Fo_init : q_ln M_Fo_init = 1 := by decide +kernel
theorem r_Fo_init : q_r M_Fo_init = none := by decide +kernel
def M_Ta_init : q_MT := (6, 133)
theorem L_Ta_init : q_ln M_Ta_init = 2 := by decide +kernel
theorem r_Ta_init : q_r M_Ta_init = none := by decide +kernel
def M_Cm_init : q_MT := (1, 153)
theorem L_Cm_init : q_ln M_Cm_init = 2 := by decide +kernel
theorem r_Cm_init : q_r M_Cm_init = none := by decide +kernel
def M_Ou_init : q_MT := (4, 224)
theorem L_Ou_init : q_ln M_Ou_init = 3 := by decide +kernel
theorem r_Ou_init : q_r M_Ou_init = none := by decide +kernel
def M_Cu_init : q_MT := (2, 230)
theorem L_Cu_init : q_ln M_Cu_init = 2 := by decide +kernel
theorem r_Cu_init : q_r M_Cu_init = none := by decide +kernel
def M_Pa_init : q_MT := (5, 253)
theorem L_Pa_init : q_ln M_Pa_init = 2 := by decide +kernel
theorem r_Pa_init : q_r M_Pa_init = none := by decide +kernel
def M_FO_feed : q_MT := (7, 349)
theorem L_FO_feed : q_ln M_FO_feed = 6 := by decide +kernel
theorem r_FO_feed : q_r M_FO_feed = (some .int) := by decide +kernel
def M_By_makeRoom : q_MT := (0, 353)
theorem L_By_makeRoom : q_ln M_By_makeRoom = 2 := by decide +kernel
theorem r_By_makeRoom : q_r M_By_makeRoom = none := by decide +kernel
def M_Ma_max : q_MT := (10, 356)
theorem L_Ma_max : q_ln M_Ma_max = 2 := by decide +kernel
theorem r_Ma_max : q_r M_Ma_max = (some .int) := by decide +kernel
def M_Ma_min : q_MT := (10, 359)
theorem L_Ma_min : q_ln M_Ma_min = 2 := by decide +kernel
theorem r_Ma_min : q_r M_Ma_min = (some .int) := by decide +kernel
def M_Ar_copyOf : q_MT := (11, 362)
theorem L_Ar_copyOf : q_ln M_Ar_copyOf = 3 := by decide +kernel
theorem r_Ar_copyOf : q_r M_Ar_copyOf = (some (.array .byte)) := by decide +kernel
def M_By_addWord : q_MT := (0, 377)
theorem L_By_addWord : q_ln M_By_addWord = 2 := by decide +kernel
theorem r_By_addWord : q_r M_By_addWord = none := by decide +kernel
def M_FO_at : q_MT := (7, 381)
theorem L_FO_at : q_ln M_FO_at = 2 := by decide +kernel
theorem r_FO_at : q_r M_FO_at = (some .int) := by decide +kernel
def M_By_u8 : q_MT := (0, 385)
theorem L_By_u8 : q_ln M_By_u8 = 2 := by decide +kernel
theorem r_By_u8 : q_r M_By_u8 = (some .int) := by decide +kernel
def M_FO_load : q_MT := (7, 389)
theorem L_FO_load : q_ln M_FO_load = 4 := by decide +kernel
theorem r_FO_load : q_r M_FO_load = (some .int) := by decide +kernel
def M_Fo_takeFile : q_MT := (3, 393)
theorem L_Fo_takeFile : q_ln M_Fo_takeFile = 2 := by decide +kernel
theorem r_Fo_takeFile : q_r M_Fo_takeFile = none := by decide +kernel
def M_By_copy : q_MT := (0, 397)
theorem L_By_copy : q_ln M_By_copy = 2 := by decide +kernel
theorem r_By_copy : q_r M_By_copy = none := by decide +kernel
def M_Ta_lay : q_MT := (6, 403)
theorem L_Ta_lay : q_ln M_Ta_lay = 3 := by decide +kernel
theorem r_Ta_lay : q_r M_Ta_lay = none := by decide +kernel
def M_Fo_firstWrong : q_MT := (3, 407)
theorem L_Fo_firstWrong : q_ln M_Fo_firstWrong = 2 := by decide +kernel
theorem r_Fo_firstWrong : q_r M_Fo_firstWrong = (some .int) := by decide +kernel
def M_Fo_isFile : q_MT := (3, 411)
theorem L_Fo_isFile : q_ln M_Fo_isFile = 8 := by decide +kernel
theorem r_Fo_isFile : q_r M_Fo_isFile = (some .boolean) := by decide +kernel
def M_Fo_tables : q_MT := (3, 415)
theorem L_Fo_tables : q_ln M_Fo_tables = 1 := by decide +kernel
theorem r_Fo_tables : q_r M_Fo_tables = (some .int) := by decide +kernel
def M_Ta_u16 : q_MT := (6, 419)
theorem L_Ta_u16 : q_ln M_Ta_u16 = 2 := by decide +kernel
theorem r_Ta_u16 : q_r M_Ta_u16 = (some .int) := by decide +kernel
def M_Ta_u8 : q_MT := (6, 423)
theorem L_Ta_u8 : q_ln M_Ta_u8 = 3 := by decide +kernel
theorem r_Ta_u8 : q_r M_Ta_u8 = (some .int) := by decide +kernel
def M_Ta_u32 : q_MT := (6, 427)
theorem L_Ta_u32 : q_ln M_Ta_u32 = 2 := by decide +kernel
theorem r_Ta_u32 : q_r M_Ta_u32 = (some .long) := by decide +kernel
def M_Ta_holds : q_MT := (6, 433)
theorem L_Ta_holds : q_ln M_Ta_holds = 5 := by decide +kernel
theorem r_Ta_holds : q_r M_Ta_holds = (some .boolean) := by decide +kernel
def M_Fo_hasSums : q_MT := (3, 438)
theorem L_Fo_hasSums : q_ln M_Fo_hasSums = 4 := by decide +kernel
theorem r_Fo_hasSums : q_r M_Fo_hasSums = (some .boolean) := by decide +kernel
def M_Fo_layByEntry : q_MT := (3, 442)
theorem L_Fo_layByEntry : q_ln M_Fo_layByEntry = 3 := by decide +kernel
theorem r_Fo_layByEntry : q_r M_Fo_layByEntry = none := by decide +kernel
def M_Fo_sum : q_MT := (3, 446)
theorem L_Fo_sum : q_ln M_Fo_sum = 5 := by decide +kernel
theorem r_Fo_sum : q_r M_Fo_sum = (some .long) := by decide +kernel
def M_Fo_hasTables : q_MT := (3, 451)
theorem L_Fo_hasTables : q_ln M_Fo_hasTables = 1 := by decide +kernel
theorem r_Fo_hasTables : q_r M_Fo_hasTables = (some .boolean) := by decide +kernel
def M_Fo_finds : q_MT := (3, 456)
theorem L_Fo_finds : q_ln M_Fo_finds = 6 := by decide +kernel
theorem r_Fo_finds : q_r M_Fo_finds = (some .boolean) := by decide +kernel
def M_Fo_hasCounts : q_MT := (3, 466)
theorem L_Fo_hasCounts : q_ln M_Fo_hasCounts = 1 := by decide +kernel
theorem r_Fo_hasCounts : q_r M_Fo_hasCounts = (some .boolean) := by decide +kernel
def M_Fo_hasPlaces : q_MT := (3, 470)
theorem L_Fo_hasPlaces : q_ln M_Fo_hasPlaces = 6 := by decide +kernel
theorem r_Fo_hasPlaces : q_r M_Fo_hasPlaces = (some .boolean) := by decide +kernel
def M_Fo_dataPlace : q_MT := (3, 474)
theorem L_Fo_dataPlace : q_ln M_Fo_dataPlace = 2 := by decide +kernel
theorem r_Fo_dataPlace : q_r M_Fo_dataPlace = (some .long) := by decide +kernel
def M_Cm_isFound : q_MT := (1, 478)
theorem L_Cm_isFound : q_ln M_Cm_isFound = 3 := by decide +kernel
theorem r_Cm_isFound : q_r M_Cm_isFound = (some .boolean) := by decide +kernel
def M_Cm_firstEntry : q_MT := (1, 485)
theorem L_Cm_firstEntry : q_ln M_Cm_firstEntry = 5 := by decide +kernel
theorem r_Cm_firstEntry : q_r M_Cm_firstEntry = (some .int) := by decide +kernel
def M_Cm_hasGroups : q_MT := (1, 490)
theorem L_Cm_hasGroups : q_ln M_Cm_hasGroups = 11 := by decide +kernel
theorem r_Cm_hasGroups : q_r M_Cm_hasGroups = (some .boolean) := by decide +kernel
def M_Cm_hasSegments : q_MT := (1, 498)
theorem L_Cm_hasSegments : q_ln M_Cm_hasSegments = 5 := by decide +kernel
theorem r_Cm_hasSegments : q_r M_Cm_hasSegments = (some .boolean) := by decide +kernel
def M_Cm_lastOf : q_MT := (1, 502)
theorem L_Cm_lastOf : q_ln M_Cm_lastOf = 2 := by decide +kernel
theorem r_Cm_lastOf : q_r M_Cm_lastOf = (some .int) := by decide +kernel
def M_Cm_firstOf : q_MT := (1, 506)
theorem L_Cm_firstOf : q_ln M_Cm_firstOf = 2 := by decide +kernel
theorem r_Cm_firstOf : q_r M_Cm_firstOf = (some .int) := by decide +kernel
def M_Ou_readsAll : q_MT := (4, 511)
theorem L_Ou_readsAll : q_ln M_Ou_readsAll = 3 := by decide +kernel
theorem r_Ou_readsAll : q_r M_Ou_readsAll = (some .boolean) := by decide +kernel
def M_Ou_readGlyph : q_MT := (4, 515)
theorem L_Ou_readGlyph : q_ln M_Ou_readGlyph = 3 := by decide +kernel
theorem r_Ou_readGlyph : q_r M_Ou_readGlyph = (some .boolean) := by decide +kernel
def M_Ou_addsGlyph : q_MT := (4, 519)
theorem L_Ou_addsGlyph : q_ln M_Ou_addsGlyph = 7 := by decide +kernel
theorem r_Ou_addsGlyph : q_r M_Ou_addsGlyph = (some .boolean) := by decide +kernel
def M_Cu_begin : q_MT := (2, 524)
theorem L_Cu_begin : q_ln M_Cu_begin = 4 := by decide +kernel
theorem r_Cu_begin : q_r M_Cu_begin = none := by decide +kernel
def M_Cu_u16 : q_MT := (2, 529)
theorem L_Cu_u16 : q_ln M_Cu_u16 = 2 := by decide +kernel
theorem r_Cu_u16 : q_r M_Cu_u16 = (some .int) := by decide +kernel
def M_Cu_pass : q_MT := (2, 533)
theorem L_Cu_pass : q_ln M_Cu_pass = 2 := by decide +kernel
theorem r_Cu_pass : q_r M_Cu_pass = none := by decide +kernel
def M_Cu_follow : q_MT := (2, 537)
theorem L_Cu_follow : q_ln M_Cu_follow = 2 := by decide +kernel
theorem r_Cu_follow : q_r M_Cu_follow = none := by decide +kernel
def M_Ou_addsParts : q_MT := (4, 541)
theorem L_Ou_addsParts : q_ln M_Ou_addsParts = 10 := by decide +kernel
theorem r_Ou_addsParts : q_r M_Ou_addsParts = (some .boolean) := by decide +kernel
def M_Pa_isRead : q_MT := (5, 545)
theorem L_Pa_isRead : q_ln M_Pa_isRead = 1 := by decide +kernel
theorem r_Pa_isRead : q_r M_Pa_isRead = (some .boolean) := by decide +kernel
def M_Pa_number : q_MT := (5, 550)
theorem L_Pa_number : q_ln M_Pa_number = 2 := by decide +kernel
theorem r_Pa_number : q_r M_Pa_number = (some .int) := by decide +kernel
def M_Pa_has : q_MT := (5, 554)
theorem L_Pa_has : q_ln M_Pa_has = 2 := by decide +kernel
theorem r_Pa_has : q_r M_Pa_has = (some .boolean) := by decide +kernel
def M_Cu_u8 : q_MT := (2, 558)
theorem L_Cu_u8 : q_ln M_Cu_u8 = 2 := by decide +kernel
theorem r_Cu_u8 : q_r M_Cu_u8 = (some .int) := by decide +kernel
def M_Pa_readFactors : q_MT := (5, 562)
theorem L_Pa_readFactors : q_ln M_Pa_readFactors = 1 := by decide +kernel
theorem r_Pa_readFactors : q_r M_Pa_readFactors = none := by decide +kernel
def M_In_bitCount : q_MT := (12, 565)
theorem L_In_bitCount : q_ln M_In_bitCount = 1 := by decide +kernel
theorem r_In_bitCount : q_r M_In_bitCount = (some .int) := by decide +kernel
def M_Ou_isLaid : q_MT := (4, 572)
theorem L_Ou_isLaid : q_ln M_Ou_isLaid = 9 := by decide +kernel
theorem r_Ou_isLaid : q_r M_Ou_isLaid = (some .boolean) := by decide +kernel
def M_Pa_turnedX : q_MT := (5, 577)
theorem L_Pa_turnedX : q_ln M_Pa_turnedX = 3 := by decide +kernel
theorem r_Pa_turnedX : q_r M_Pa_turnedX = (some .int) := by decide +kernel
def M_Pa_turnedY : q_MT := (5, 581)
theorem L_Pa_turnedY : q_ln M_Pa_turnedY = 3 := by decide +kernel
theorem r_Pa_turnedY : q_r M_Pa_turnedY = (some .int) := by decide +kernel
def M_Ou_isCoordinate : q_MT := (4, 585)
theorem L_Ou_isCoordinate : q_ln M_Ou_isCoordinate = 2 := by decide +kernel
theorem r_Ou_isCoordinate : q_r M_Ou_isCoordinate = (some .boolean) := by decide +kernel
def M_Ou_addsSimple : q_MT := (4, 589)
theorem L_Ou_addsSimple : q_ln M_Ou_addsSimple = 3 := by decide +kernel
theorem r_Ou_addsSimple : q_r M_Ou_addsSimple = (some .boolean) := by decide +kernel
def M_Ou_addsContours : q_MT := (4, 593)
theorem L_Ou_addsContours : q_ln M_Ou_addsContours = 7 := by decide +kernel
theorem r_Ou_addsContours : q_r M_Ou_addsContours = (some .boolean) := by decide +kernel
def M_Ou_readsFlags : q_MT := (4, 597)
theorem L_Ou_readsFlags : q_ln M_Ou_readsFlags = 5 := by decide +kernel
theorem r_Ou_readsFlags : q_r M_Ou_readsFlags = (some .boolean) := by decide +kernel
def M_Ou_readsAxis : q_MT := (4, 602)
theorem L_Ou_readsAxis : q_ln M_Ou_readsAxis = 9 := by decide +kernel
theorem r_Ou_readsAxis : q_r M_Ou_readsAxis = (some .boolean) := by decide +kernel
def M_FO_put : q_MT := (7, 611)
theorem L_FO_put : q_ln M_FO_put = 4 := by decide +kernel
theorem r_FO_put : q_r M_FO_put = (some .int) := by decide +kernel
def M_By_change : q_MT := (0, 698)
theorem L_By_change : q_ln M_By_change = 3 := by decide +kernel
theorem r_By_change : q_r M_By_change = none := by decide +kernel
def M_FO_cut : q_MT := (7, 705)
theorem L_FO_cut : q_ln M_FO_cut = 3 := by decide +kernel
theorem r_FO_cut : q_r M_FO_cut = (some .int) := by decide +kernel
def M_FO_glyph : q_MT := (7, 714)
theorem L_FO_glyph : q_ln M_FO_glyph = 4 := by decide +kernel
theorem r_FO_glyph : q_r M_FO_glyph = (some .int) := by decide +kernel
def M_FO_needFont : q_MT := (7, 718)
theorem L_FO_needFont : q_ln M_FO_needFont = 1 := by decide +kernel
theorem r_FO_needFont : q_r M_FO_needFont = none := by decide +kernel
def M_Cm_glyphOf : q_MT := (1, 740)
theorem L_Cm_glyphOf : q_ln M_Cm_glyphOf = 2 := by decide +kernel
theorem r_Cm_glyphOf : q_r M_Cm_glyphOf = (some .long) := by decide +kernel
def M_Cm_glyphByGroups : q_MT := (1, 744)
theorem L_Cm_glyphByGroups : q_ln M_Cm_glyphByGroups = 6 := by decide +kernel
theorem r_Cm_glyphByGroups : q_r M_Cm_glyphByGroups = (some .long) := by decide +kernel
def M_Cm_glyphBySegments : q_MT := (1, 749)
theorem L_Cm_glyphBySegments : q_ln M_Cm_glyphBySegments = 3 := by decide +kernel
theorem r_Cm_glyphBySegments : q_r M_Cm_glyphBySegments = (some .int) := by decide +kernel
def M_Cm_glyphBySegment : q_MT := (1, 753)
theorem L_Cm_glyphBySegment : q_ln M_Cm_glyphBySegment = 7 := by decide +kernel
theorem r_Cm_glyphBySegment : q_r M_Cm_glyphBySegment = (some .int) := by decide +kernel
def M_FO_measure : q_MT := (7, 761)
theorem L_FO_measure : q_ln M_FO_measure = 3 := by decide +kernel
theorem r_FO_measure : q_r M_FO_measure = (some .int) := by decide +kernel
def M_FO_isGlyph : q_MT := (7, 765)
theorem L_FO_isGlyph : q_ln M_FO_isGlyph = 2 := by decide +kernel
theorem r_FO_isGlyph : q_r M_FO_isGlyph = (some .boolean) := by decide +kernel
def M_FO_show : q_MT := (7, 770)
theorem L_FO_show : q_ln M_FO_show = 2 := by decide +kernel
theorem r_FO_show : q_r M_FO_show = none := by decide +kernel
def M_Fo_widthOf : q_MT := (3, 775)
theorem L_Fo_widthOf : q_ln M_Fo_widthOf = 2 := by decide +kernel
theorem r_Fo_widthOf : q_r M_Fo_widthOf = (some .int) := by decide +kernel
def M_Fo_leftOf : q_MT := (3, 780)
theorem L_Fo_leftOf : q_ln M_Fo_leftOf = 2 := by decide +kernel
theorem r_Fo_leftOf : q_r M_Fo_leftOf = (some .int) := by decide +kernel
def M_Ta_s16 : q_MT := (6, 784)
theorem L_Ta_s16 : q_ln M_Ta_s16 = 2 := by decide +kernel
theorem r_Ta_s16 : q_r M_Ta_s16 = (some .int) := by decide +kernel
def M_Ou_least : q_MT := (4, 789)
theorem L_Ou_least : q_ln M_Ou_least = 4 := by decide +kernel
theorem r_Ou_least : q_r M_Ou_least = (some .int) := by decide +kernel
def M_Ou_greatest : q_MT := (4, 794)
theorem L_Ou_greatest : q_ln M_Ou_greatest = 4 := by decide +kernel
theorem r_Ou_greatest : q_r M_Ou_greatest = (some .int) := by decide +kernel
def M_FO_point : q_MT := (7, 802)
theorem L_FO_point : q_ln M_FO_point = 4 := by decide +kernel
theorem r_FO_point : q_r M_FO_point = (some .int) := by decide +kernel
def M_FO_font : q_MT := (7, 811)
theorem L_FO_font : q_ln M_FO_font = 2 := by decide +kernel
theorem r_FO_font : q_r M_FO_font = (some .int) := by decide +kernel
def M_Mo_init : q_MT := (8, 817)
theorem L_Mo_init : q_ln M_Mo_init = 1 := by decide +kernel
theorem r_Mo_init : q_r M_Mo_init = none := by decide +kernel
def M_Mo_thrown : q_MT := (8, 927)
theorem L_Mo_thrown : q_ln M_Mo_thrown = 1 := by decide +kernel
theorem r_Mo_thrown : q_r M_Mo_thrown = (some .int) := by decide +kernel
def M_Mo_feed : q_MT := (8, 931)
theorem L_Mo_feed : q_ln M_Mo_feed = 6 := by decide +kernel
theorem r_Mo_feed : q_r M_Mo_feed = (some .int) := by decide +kernel
def M_Mo_put4 : q_MT := (8, 935)
theorem L_Mo_put4 : q_ln M_Mo_put4 = 3 := by decide +kernel
theorem r_Mo_put4 : q_r M_Mo_put4 = none := by decide +kernel
def M_Mo_put : q_MT := (8, 939)
theorem L_Mo_put : q_ln M_Mo_put = 4 := by decide +kernel
theorem r_Mo_put : q_r M_Mo_put = (some .int) := by decide +kernel
def M_Mo_refused : q_MT := (8, 943)
theorem L_Mo_refused : q_ln M_Mo_refused = 2 := by decide +kernel
theorem r_Mo_refused : q_r M_Mo_refused = (some .boolean) := by decide +kernel
def M_Mo_at : q_MT := (8, 947)
theorem L_Mo_at : q_ln M_Mo_at = 2 := by decide +kernel
theorem r_Mo_at : q_r M_Mo_at = (some .int) := by decide +kernel
def M_Mo_cut : q_MT := (8, 951)
theorem L_Mo_cut : q_ln M_Mo_cut = 3 := by decide +kernel
theorem r_Mo_cut : q_r M_Mo_cut = (some .int) := by decide +kernel
def M_Mo_load : q_MT := (8, 955)
theorem L_Mo_load : q_ln M_Mo_load = 3 := by decide +kernel
theorem r_Mo_load : q_r M_Mo_load = (some .int) := by decide +kernel
def M_Mo_checkFile : q_MT := (8, 959)
theorem L_Mo_checkFile : q_ln M_Mo_checkFile = 9 := by decide +kernel
theorem r_Mo_checkFile : q_r M_Mo_checkFile = none := by decide +kernel
def M_Mo_u32 : q_MT := (8, 963)
theorem L_Mo_u32 : q_ln M_Mo_u32 = 6 := by decide +kernel
theorem r_Mo_u32 : q_r M_Mo_u32 = (some .long) := by decide +kernel
def M_Mo_u16 : q_MT := (8, 968)
theorem L_Mo_u16 : q_ln M_Mo_u16 = 6 := by decide +kernel
theorem r_Mo_u16 : q_r M_Mo_u16 = (some .int) := by decide +kernel
def M_Mo_u8 : q_MT := (8, 972)
theorem L_Mo_u8 : q_ln M_Mo_u8 = 8 := by decide +kernel
theorem r_Mo_u8 : q_r M_Mo_u8 = (some .int) := by decide +kernel
def M_Mo_need : q_MT := (8, 976)
theorem L_Mo_need : q_ln M_Mo_need = 2 := by decide +kernel
theorem r_Mo_need : q_r M_Mo_need = none := by decide +kernel
def M_Mo_tables : q_MT := (8, 981)
theorem L_Mo_tables : q_ln M_Mo_tables = 1 := by decide +kernel
theorem r_Mo_tables : q_r M_Mo_tables = (some .int) := by decide +kernel
def M_Mo_checkSums : q_MT := (8, 990)
theorem L_Mo_checkSums : q_ln M_Mo_checkSums = 4 := by decide +kernel
theorem r_Mo_checkSums : q_r M_Mo_checkSums = none := by decide +kernel
def M_Mo_sumOf : q_MT := (8, 994)
theorem L_Mo_sumOf : q_ln M_Mo_sumOf = 11 := by decide +kernel
theorem r_Mo_sumOf : q_r M_Mo_sumOf = (some .long) := by decide +kernel
def M_Mo_findTables : q_MT := (8, 1000)
theorem L_Mo_findTables : q_ln M_Mo_findTables = 6 := by decide +kernel
theorem r_Mo_findTables : q_r M_Mo_findTables = none := by decide +kernel
def M_Mo_checkForms : q_MT := (8, 1004)
theorem L_Mo_checkForms : q_ln M_Mo_checkForms = 9 := by decide +kernel
theorem r_Mo_checkForms : q_r M_Mo_checkForms = none := by decide +kernel
def M_Mo_t16 : q_MT := (8, 1009)
theorem L_Mo_t16 : q_ln M_Mo_t16 = 4 := by decide +kernel
theorem r_Mo_t16 : q_r M_Mo_t16 = (some .int) := by decide +kernel
def M_Mo_tableAt : q_MT := (8, 1013)
theorem L_Mo_tableAt : q_ln M_Mo_tableAt = 2 := by decide +kernel
theorem r_Mo_tableAt : q_r M_Mo_tableAt = (some .int) := by decide +kernel
def M_Mo_tableLength : q_MT := (8, 1017)
theorem L_Mo_tableLength : q_ln M_Mo_tableLength = 2 := by decide +kernel
theorem r_Mo_tableLength : q_r M_Mo_tableLength = (some .int) := by decide +kernel
def M_Mo_glyphCount : q_MT := (8, 1022)
theorem L_Mo_glyphCount : q_ln M_Mo_glyphCount = 1 := by decide +kernel
theorem r_Mo_glyphCount : q_r M_Mo_glyphCount = (some .int) := by decide +kernel
def M_Mo_longCount : q_MT := (8, 1026)
theorem L_Mo_longCount : q_ln M_Mo_longCount = 1 := by decide +kernel
theorem r_Mo_longCount : q_r M_Mo_longCount = (some .int) := by decide +kernel
def M_Mo_dataAt : q_MT := (8, 1031)
theorem L_Mo_dataAt : q_ln M_Mo_dataAt = 2 := by decide +kernel
theorem r_Mo_dataAt : q_r M_Mo_dataAt = (some .long) := by decide +kernel
def M_Mo_t32 : q_MT := (8, 1035)
theorem L_Mo_t32 : q_ln M_Mo_t32 = 4 := by decide +kernel
theorem r_Mo_t32 : q_r M_Mo_t32 = (some .long) := by decide +kernel
def M_Mo_checkMap : q_MT := (8, 1039)
theorem L_Mo_checkMap : q_ln M_Mo_checkMap = 3 := by decide +kernel
theorem r_Mo_checkMap : q_r M_Mo_checkMap = none := by decide +kernel
def M_Mo_hasMap : q_MT := (8, 1043)
theorem L_Mo_hasMap : q_ln M_Mo_hasMap = 2 := by decide +kernel
theorem r_Mo_hasMap : q_r M_Mo_hasMap = (some .boolean) := by decide +kernel
def M_Mo_mapAt : q_MT := (8, 1047)
theorem L_Mo_mapAt : q_ln M_Mo_mapAt = 9 := by decide +kernel
theorem r_Mo_mapAt : q_r M_Mo_mapAt = (some .long) := by decide +kernel
def M_Mo_checkGroups : q_MT := (8, 1051)
theorem L_Mo_checkGroups : q_ln M_Mo_checkGroups = 15 := by decide +kernel
theorem r_Mo_checkGroups : q_r M_Mo_checkGroups = none := by decide +kernel
def M_Mo_checkSegments : q_MT := (8, 1056)
theorem L_Mo_checkSegments : q_ln M_Mo_checkSegments = 8 := by decide +kernel
theorem r_Mo_checkSegments : q_r M_Mo_checkSegments = none := by decide +kernel
def M_Mo_checkGlyphs : q_MT := (8, 1064)
theorem L_Mo_checkGlyphs : q_ln M_Mo_checkGlyphs = 3 := by decide +kernel
theorem r_Mo_checkGlyphs : q_r M_Mo_checkGlyphs = none := by decide +kernel
def M_Mo_readGlyph : q_MT := (8, 1068)
theorem L_Mo_readGlyph : q_ln M_Mo_readGlyph = 4 := by decide +kernel
theorem r_Mo_readGlyph : q_r M_Mo_readGlyph = none := by decide +kernel
def M_Mo_begin : q_MT := (8, 1072)
theorem L_Mo_begin : q_ln M_Mo_begin = 8 := by decide +kernel
theorem r_Mo_begin : q_r M_Mo_begin = none := by decide +kernel
def M_Mo_s16 : q_MT := (8, 1076)
theorem L_Mo_s16 : q_ln M_Mo_s16 = 7 := by decide +kernel
theorem r_Mo_s16 : q_r M_Mo_s16 = (some .int) := by decide +kernel
def M_Mo_readSimple : q_MT := (8, 1081)
theorem L_Mo_readSimple : q_ln M_Mo_readSimple = 10 := by decide +kernel
theorem r_Mo_readSimple : q_r M_Mo_readSimple = none := by decide +kernel
def M_Mo_readFlags : q_MT := (8, 1086)
theorem L_Mo_readFlags : q_ln M_Mo_readFlags = 14 := by decide +kernel
theorem r_Mo_readFlags : q_r M_Mo_readFlags = (some .long) := by decide +kernel
def M_Mo_readSteps : q_MT := (8, 1090)
theorem L_Mo_readSteps : q_ln M_Mo_readSteps = 15 := by decide +kernel
theorem r_Mo_readSteps : q_r M_Mo_readSteps = (some .long) := by decide +kernel
def M_Mo_isCoordinate : q_MT := (8, 1093)
theorem L_Mo_isCoordinate : q_ln M_Mo_isCoordinate = 2 := by decide +kernel
theorem r_Mo_isCoordinate : q_r M_Mo_isCoordinate = (some .boolean) := by decide +kernel
def M_Mo_readPart : q_MT := (8, 1099)
theorem L_Mo_readPart : q_ln M_Mo_readPart = 12 := by decide +kernel
theorem r_Mo_readPart : q_r M_Mo_readPart = (some .int) := by decide +kernel
def M_Mo_number : q_MT := (8, 1103)
theorem L_Mo_number : q_ln M_Mo_number = 8 := by decide +kernel
theorem r_Mo_number : q_r M_Mo_number = (some .int) := by decide +kernel
def M_Mo_f16 : q_MT := (8, 1109)
theorem L_Mo_f16 : q_ln M_Mo_f16 = 4 := by decide +kernel
theorem r_Mo_f16 : q_r M_Mo_f16 = (some .int) := by decide +kernel
def M_Mo_join : q_MT := (8, 1113)
theorem L_Mo_join : q_ln M_Mo_join = 16 := by decide +kernel
theorem r_Mo_join : q_r M_Mo_join = none := by decide +kernel
def M_Mo_turned : q_MT := (8, 1116)
theorem L_Mo_turned : q_ln M_Mo_turned = 6 := by decide +kernel
theorem r_Mo_turned : q_r M_Mo_turned = (some .long) := by decide +kernel
def M_Mo_glyph : q_MT := (8, 1121)
theorem L_Mo_glyph : q_ln M_Mo_glyph = 2 := by decide +kernel
theorem r_Mo_glyph : q_r M_Mo_glyph = (some .int) := by decide +kernel
def M_Mo_groupGlyph : q_MT := (8, 1126)
theorem L_Mo_groupGlyph : q_ln M_Mo_groupGlyph = 15 := by decide +kernel
theorem r_Mo_groupGlyph : q_r M_Mo_groupGlyph = (some .int) := by decide +kernel
def M_Mo_segmentGlyph : q_MT := (8, 1130)
theorem L_Mo_segmentGlyph : q_ln M_Mo_segmentGlyph = 14 := by decide +kernel
theorem r_Mo_segmentGlyph : q_r M_Mo_segmentGlyph = (some .int) := by decide +kernel
def M_Mo_measure : q_MT := (8, 1134)
theorem L_Mo_measure : q_ln M_Mo_measure = 4 := by decide +kernel
theorem r_Mo_measure : q_r M_Mo_measure = (some .int) := by decide +kernel
def M_Mo_isGlyph : q_MT := (8, 1138)
theorem L_Mo_isGlyph : q_ln M_Mo_isGlyph = 2 := by decide +kernel
theorem r_Mo_isGlyph : q_r M_Mo_isGlyph = (some .boolean) := by decide +kernel
def M_Mo_lends : q_MT := (8, 1142)
theorem L_Mo_lends : q_ln M_Mo_lends = 3 := by decide +kernel
theorem r_Mo_lends : q_r M_Mo_lends = (some .int) := by decide +kernel
def M_Mo_width : q_MT := (8, 1146)
theorem L_Mo_width : q_ln M_Mo_width = 3 := by decide +kernel
theorem r_Mo_width : q_r M_Mo_width = (some .int) := by decide +kernel
def M_Mo_left : q_MT := (8, 1150)
theorem L_Mo_left : q_ln M_Mo_left = 3 := by decide +kernel
theorem r_Mo_left : q_r M_Mo_left = (some .int) := by decide +kernel
def M_Mo_bound : q_MT := (8, 1154)
theorem L_Mo_bound : q_ln M_Mo_bound = 6 := by decide +kernel
theorem r_Mo_bound : q_r M_Mo_bound = (some .int) := by decide +kernel
def M_Mo_point : q_MT := (8, 1158)
theorem L_Mo_point : q_ln M_Mo_point = 5 := by decide +kernel
theorem r_Mo_point : q_r M_Mo_point = (some .int) := by decide +kernel
def M_Mo_font : q_MT := (8, 1162)
theorem L_Mo_font : q_ln M_Mo_font = 2 := by decide +kernel
theorem r_Mo_font : q_r M_Mo_font = (some .int) := by decide +kernel
def q_flL : List (Nat × Nat × Nat × Nat × Bool × Nat) := [(0, 9, 0, 0, false, 107), (2, 41, 0, 0, true, 108), (6, 25, 0, 0, true, 109), (0, 15, 0, 1, false, 110), (7, 43, 0, 1, true, 111), (3, 63, 0, 1, true, 112), (2, 30, 0, 1, true, 113), (6, 20, 0, 1, true, 114), (6, 7, 6, 0, false, 135), (2, 24, 6, 0, true, 136), (6, 13, 6, 1, false, 137), (2, 27, 6, 1, true, 138), (6, 17, 6, 2, false, 139), (1, 46, 6, 2, true, 140), (3, 120, 6, 2, true, 141), (1, 9, 1, 0, false, 155), (1, 15, 1, 1, false, 156), (7, 158, 1, 1, true, 157), (1, 19, 1, 2, false, 158), (1, 23, 1, 3, false, 159), (3, 12, 3, 0, false, 169), (3, 23, 3, 1, false, 170), (3, 27, 3, 2, false, 171), (3, 30, 3, 3, false, 172), (3, 33, 3, 4, false, 173), (4, 70, 3, 4, true, 174), (3, 36, 3, 5, false, 175), (3, 39, 3, 6, false, 176), (3, 42, 3, 7, false, 177), (3, 45, 3, 8, false, 178), (3, 48, 3, 9, false, 179), (3, 56, 3, 10, false, 180), (7, 95, 3, 10, true, 181), (7, 155, 3, 11, true, 182), (3, 136, 3, 11, false, 183), (4, 40, 3, 12, true, 184), (7, 86, 3, 12, true, 185), (3, 143, 3, 12, false, 186), (3, 146, 3, 13, false, 187), (3, 139, 3, 14, false, 188), (2, 7, 2, 0, false, 232), (2, 13, 2, 1, false, 233), (2, 17, 2, 2, false, 234), (2, 20, 2, 3, false, 235), (5, 43, 2, 3, true, 236), (4, 86, 2, 3, true, 237), (5, 14, 5, 0, false, 257), (4, 90, 5, 0, true, 258), (5, 20, 5, 1, false, 259), (5, 28, 5, 2, false, 260), (4, 122, 5, 2, true, 261), (5, 34, 5, 3, false, 262), (4, 132, 5, 3, true, 263), (5, 37, 5, 4, false, 264), (4, 135, 5, 4, true, 265), (5, 60, 5, 5, false, 266), (5, 63, 5, 6, false, 267), (5, 66, 5, 7, false, 268), (5, 69, 5, 8, false, 269), (4, 9, 4, 0, false, 289), (7, 129, 4, 0, true, 290), (4, 15, 4, 1, false, 291), (7, 137, 4, 1, true, 292), (4, 18, 4, 2, false, 293), (7, 147, 4, 2, true, 294), (4, 21, 4, 3, false, 295), (7, 150, 4, 3, true, 296), (4, 29, 4, 4, false, 297), (4, 35, 4, 5, false, 298), (4, 50, 4, 6, false, 299), (7, 123, 4, 6, true, 300), (4, 53, 4, 7, false, 301), (7, 126, 4, 7, true, 302), (4, 56, 4, 8, false, 303), (4, 63, 4, 9, false, 304), (7, 114, 4, 9, true, 305), (7, 12, 7, 0, false, 327), (7, 31, 7, 1, false, 328), (7, 19, 7, 2, false, 329), (7, 23, 7, 3, false, 330), (7, 35, 7, 4, false, 331), (7, 39, 7, 5, false, 332), (8, 90, 8, 0, false, 826), (8, 94, 8, 1, false, 827), (8, 7, 8, 2, false, 828), (8, 13, 8, 3, false, 829), (8, 230, 8, 4, false, 830), (8, 233, 8, 5, false, 831), (8, 113, 8, 6, false, 832), (8, 105, 8, 7, false, 833), (8, 16, 8, 8, false, 834), (8, 19, 8, 9, false, 835), (8, 22, 8, 10, false, 836), (8, 25, 8, 11, false, 837), (8, 28, 8, 12, false, 838), (8, 31, 8, 13, false, 839), (8, 35, 8, 14, false, 840), (8, 38, 8, 15, false, 841), (8, 41, 8, 16, false, 842), (8, 44, 8, 17, false, 843), (8, 47, 8, 18, false, 844), (8, 50, 8, 19, false, 845), (8, 53, 8, 20, false, 846), (8, 56, 8, 21, false, 847), (8, 59, 8, 22, false, 848), (8, 62, 8, 23, false, 849), (8, 65, 8, 24, false, 850), (8, 68, 8, 25, false, 851), (8, 71, 8, 26, false, 852), (8, 74, 8, 27, false, 853), (8, 77, 8, 28, false, 854), (8, 80, 8, 29, false, 855), (8, 247, 8, 30, false, 856), (8, 250, 8, 31, false, 857)]
def q_hasN (i : Nat) (w : Cond) : Bool := match lw_tbl[i]? with | some v => decide (v = w) | none => false
def q_isN : Cond → Bool
  | .fieldLinkNest _ _ _ _ _ _ => true
  | _ => false
def q_nst : List Cond := lw_tbl.filter q_isN
theorem q_hasN_in {i : Nat} {w : Cond} (hN : q_isN w = true) (h : q_hasN i w = true) : w ∈ q_nst := by
  unfold q_hasN at h
  cases hc : lw_tbl[i]? with
  | none => rw [hc] at h; cases h
  | some v =>
    rw [hc] at h
    have e : v = w := of_decide_eq_true h
    subst e
    exact List.mem_filter.mpr ⟨List.mem_of_getElem? hc, hN⟩
def q_okF (x : Nat × Nat × Nat × Nat × Bool × Nat) : Bool := match q_ow[x.1]?, q_cl[x.2.2.1]? with
  | some o, some (C, T, N) => decide (x.2.2.2.1 < N) && (if x.2.2.2.2.1 then q_hasN x.2.2.2.2.2 (.fieldLinkNest o x.2.1 C (T x.2.2.2.1).2.1 (T x.2.2.2.1).2.2.1 "FontOutlines") else q_has x.2.2.2.2.2 (.fieldLink o x.2.1 C (T x.2.2.2.1).2.1 (T x.2.2.2.1).2.2.1))
  | _, _ => false
theorem q_flL_ok : q_flL.all q_okF = true := by decide +kernel
def q_fl (w j : Nat) : Option (Nat × Nat × Bool) := (q_flL.find? (fun x => x.1 == w && x.2.1 == j)).map (fun x => (x.2.2.1, x.2.2.2.1, x.2.2.2.2.1))
theorem f_0_9 : q_fl 0 9 = some (0, 0, false) := rfl
theorem f_2_41 : q_fl 2 41 = some (0, 0, true) := rfl
theorem f_6_25 : q_fl 6 25 = some (0, 0, true) := rfl
theorem f_0_15 : q_fl 0 15 = some (0, 1, false) := rfl
theorem f_7_43 : q_fl 7 43 = some (0, 1, true) := rfl
theorem f_3_63 : q_fl 3 63 = some (0, 1, true) := rfl
theorem f_2_30 : q_fl 2 30 = some (0, 1, true) := rfl
theorem f_6_20 : q_fl 6 20 = some (0, 1, true) := rfl
theorem f_6_7 : q_fl 6 7 = some (6, 0, false) := rfl
theorem f_2_24 : q_fl 2 24 = some (6, 0, true) := rfl
theorem f_6_13 : q_fl 6 13 = some (6, 1, false) := rfl
theorem f_2_27 : q_fl 2 27 = some (6, 1, true) := rfl
theorem f_6_17 : q_fl 6 17 = some (6, 2, false) := rfl
theorem f_1_46 : q_fl 1 46 = some (6, 2, true) := rfl
theorem f_3_120 : q_fl 3 120 = some (6, 2, true) := rfl
theorem f_1_9 : q_fl 1 9 = some (1, 0, false) := rfl
theorem f_1_15 : q_fl 1 15 = some (1, 1, false) := rfl
theorem f_7_158 : q_fl 7 158 = some (1, 1, true) := rfl
theorem f_1_19 : q_fl 1 19 = some (1, 2, false) := rfl
theorem f_1_23 : q_fl 1 23 = some (1, 3, false) := rfl
theorem f_3_12 : q_fl 3 12 = some (3, 0, false) := rfl
theorem f_3_23 : q_fl 3 23 = some (3, 1, false) := rfl
theorem f_3_27 : q_fl 3 27 = some (3, 2, false) := rfl
theorem f_3_30 : q_fl 3 30 = some (3, 3, false) := rfl
theorem f_3_33 : q_fl 3 33 = some (3, 4, false) := rfl
theorem f_4_70 : q_fl 4 70 = some (3, 4, true) := rfl
theorem f_3_36 : q_fl 3 36 = some (3, 5, false) := rfl
theorem f_3_39 : q_fl 3 39 = some (3, 6, false) := rfl
theorem f_3_42 : q_fl 3 42 = some (3, 7, false) := rfl
theorem f_3_45 : q_fl 3 45 = some (3, 8, false) := rfl
theorem f_3_48 : q_fl 3 48 = some (3, 9, false) := rfl
theorem f_3_56 : q_fl 3 56 = some (3, 10, false) := rfl
theorem f_7_95 : q_fl 7 95 = some (3, 10, true) := rfl
theorem f_7_155 : q_fl 7 155 = some (3, 11, true) := rfl
theorem f_3_136 : q_fl 3 136 = some (3, 11, false) := rfl
theorem f_4_40 : q_fl 4 40 = some (3, 12, true) := rfl
theorem f_7_86 : q_fl 7 86 = some (3, 12, true) := rfl
theorem f_3_143 : q_fl 3 143 = some (3, 12, false) := rfl
theorem f_3_146 : q_fl 3 146 = some (3, 13, false) := rfl
theorem f_3_139 : q_fl 3 139 = some (3, 14, false) := rfl
theorem f_2_7 : q_fl 2 7 = some (2, 0, false) := rfl
theorem f_2_13 : q_fl 2 13 = some (2, 1, false) := rfl
theorem f_2_17 : q_fl 2 17 = some (2, 2, false) := rfl
theorem f_2_20 : q_fl 2 20 = some (2, 3, false) := rfl
theorem f_5_43 : q_fl 5 43 = some (2, 3, true) := rfl
theorem f_4_86 : q_fl 4 86 = some (2, 3, true) := rfl
theorem f_5_14 : q_fl 5 14 = some (5, 0, false) := rfl
theorem f_4_90 : q_fl 4 90 = some (5, 0, true) := rfl
theorem f_5_20 : q_fl 5 20 = some (5, 1, false) := rfl
theorem f_5_28 : q_fl 5 28 = some (5, 2, false) := rfl
theorem f_4_122 : q_fl 4 122 = some (5, 2, true) := rfl
theorem f_5_34 : q_fl 5 34 = some (5, 3, false) := rfl
theorem f_4_132 : q_fl 4 132 = some (5, 3, true) := rfl
theorem f_5_37 : q_fl 5 37 = some (5, 4, false) := rfl
theorem f_4_135 : q_fl 4 135 = some (5, 4, true) := rfl
theorem f_5_60 : q_fl 5 60 = some (5, 5, false) := rfl
theorem f_5_63 : q_fl 5 63 = some (5, 6, false) := rfl
theorem f_5_66 : q_fl 5 66 = some (5, 7, false) := rfl
theorem f_5_69 : q_fl 5 69 = some (5, 8, false) := rfl
theorem f_4_9 : q_fl 4 9 = some (4, 0, false) := rfl
theorem f_7_129 : q_fl 7 129 = some (4, 0, true) := rfl
theorem f_4_15 : q_fl 4 15 = some (4, 1, false) := rfl
theorem f_7_137 : q_fl 7 137 = some (4, 1, true) := rfl
theorem f_4_18 : q_fl 4 18 = some (4, 2, false) := rfl
theorem f_7_147 : q_fl 7 147 = some (4, 2, true) := rfl
theorem f_4_21 : q_fl 4 21 = some (4, 3, false) := rfl
theorem f_7_150 : q_fl 7 150 = some (4, 3, true) := rfl
theorem f_4_29 : q_fl 4 29 = some (4, 4, false) := rfl
theorem f_4_35 : q_fl 4 35 = some (4, 5, false) := rfl
theorem f_4_50 : q_fl 4 50 = some (4, 6, false) := rfl
theorem f_7_123 : q_fl 7 123 = some (4, 6, true) := rfl
theorem f_4_53 : q_fl 4 53 = some (4, 7, false) := rfl
theorem f_7_126 : q_fl 7 126 = some (4, 7, true) := rfl
theorem f_4_56 : q_fl 4 56 = some (4, 8, false) := rfl
theorem f_4_63 : q_fl 4 63 = some (4, 9, false) := rfl
theorem f_7_114 : q_fl 7 114 = some (4, 9, true) := rfl
theorem f_7_12 : q_fl 7 12 = some (7, 0, false) := rfl
theorem f_7_31 : q_fl 7 31 = some (7, 1, false) := rfl
theorem f_7_19 : q_fl 7 19 = some (7, 2, false) := rfl
theorem f_7_23 : q_fl 7 23 = some (7, 3, false) := rfl
theorem f_7_35 : q_fl 7 35 = some (7, 4, false) := rfl
theorem f_7_39 : q_fl 7 39 = some (7, 5, false) := rfl
theorem f_8_90 : q_fl 8 90 = some (8, 0, false) := rfl
theorem f_8_94 : q_fl 8 94 = some (8, 1, false) := rfl
theorem f_8_7 : q_fl 8 7 = some (8, 2, false) := rfl
theorem f_8_13 : q_fl 8 13 = some (8, 3, false) := rfl
theorem f_8_230 : q_fl 8 230 = some (8, 4, false) := rfl
theorem f_8_233 : q_fl 8 233 = some (8, 5, false) := rfl
theorem f_8_113 : q_fl 8 113 = some (8, 6, false) := rfl
theorem f_8_105 : q_fl 8 105 = some (8, 7, false) := rfl
theorem f_8_16 : q_fl 8 16 = some (8, 8, false) := rfl
theorem f_8_19 : q_fl 8 19 = some (8, 9, false) := rfl
theorem f_8_22 : q_fl 8 22 = some (8, 10, false) := rfl
theorem f_8_25 : q_fl 8 25 = some (8, 11, false) := rfl
theorem f_8_28 : q_fl 8 28 = some (8, 12, false) := rfl
theorem f_8_31 : q_fl 8 31 = some (8, 13, false) := rfl
theorem f_8_35 : q_fl 8 35 = some (8, 14, false) := rfl
theorem f_8_38 : q_fl 8 38 = some (8, 15, false) := rfl
theorem f_8_41 : q_fl 8 41 = some (8, 16, false) := rfl
theorem f_8_44 : q_fl 8 44 = some (8, 17, false) := rfl
theorem f_8_47 : q_fl 8 47 = some (8, 18, false) := rfl
theorem f_8_50 : q_fl 8 50 = some (8, 19, false) := rfl
theorem f_8_53 : q_fl 8 53 = some (8, 20, false) := rfl
theorem f_8_56 : q_fl 8 56 = some (8, 21, false) := rfl
theorem f_8_59 : q_fl 8 59 = some (8, 22, false) := rfl
theorem f_8_62 : q_fl 8 62 = some (8, 23, false) := rfl
theorem f_8_65 : q_fl 8 65 = some (8, 24, false) := rfl
theorem f_8_68 : q_fl 8 68 = some (8, 25, false) := rfl
theorem f_8_71 : q_fl 8 71 = some (8, 26, false) := rfl
theorem f_8_74 : q_fl 8 74 = some (8, 27, false) := rfl
theorem f_8_77 : q_fl 8 77 = some (8, 28, false) := rfl
theorem f_8_80 : q_fl 8 80 = some (8, 29, false) := rfl
theorem f_8_247 : q_fl 8 247 = some (8, 30, false) := rfl
theorem f_8_250 : q_fl 8 250 = some (8, 31, false) := rfl
def q_kiL : List (Nat × Nat × Int32 × Nat) := [(3, 125, 1668112752, 452), (3, 130, 1735162214, 457), (3, 131, 1751474532, 458), (3, 132, 1751672161, 459), (3, 133, 1752003704, 460), (3, 134, 1819239265, 461), (3, 135, 1835104368, 462), (1, 70, 65535, 507), (12, 265, 1431655765, 566), (12, 266, 858993459, 567), (12, 267, 252645135, 568), (7, 92, 1114111, 735), (8, 83, 1668112752, 819), (8, 84, 1735162214, 820), (8, 85, 1751474532, 821), (8, 86, 1751672161, 822), (8, 87, 1752003704, 823), (8, 88, 1819239265, 824), (8, 89, 1835104368, 825), (8, 211, 65535, 1060), (8, 123, 65536, 1077), (8, 284, 32768, 1104), (8, 236, 1114111, 1122)]
def q_klL : List (Nat × Nat × Int64 × Nat) := [(3, 102, 65536, 428), (3, 104, 12, 429), (3, 110, (-1), 434), (3, 123, 4294967295, 447), (1, 32, 4, 480), (1, 56, 16, 491), (1, 58, 12, 492), (1, 60, (-1), 493), (1, 62, 1114111, 494), (1, 77, 4294967295, 745), (1, 82, 2, 754), (8, 124, 65536, 964), (8, 126, 2, 977), (8, 139, 4, 982), (8, 145, (-1), 983), (8, 147, 12, 984), (8, 149, 16, 985), (8, 151, 8, 986), (8, 153, 24, 995), (8, 155, 4294967295, 996), (8, 173, 18, 1005), (8, 167, 50, 1018), (8, 165, 34, 1027), (8, 203, 1114111, 1052), (8, 205, 6, 1057), (8, 207, 14, 1058), (8, 209, 3, 1059), (8, 270, 10, 1082), (8, 243, (-16384), 1094), (8, 245, 16383, 1095), (8, 289, 5, 1105), (8, 294, 16384, 1117)]
theorem q_kiL_ok : q_kiL.all (fun x => match q_ow[x.1]? with | some o => q_has x.2.2.2 (.constant o x.2.1 x.2.2.1) | none => false) = true := by decide +kernel
theorem q_klL_ok : q_klL.all (fun x => match q_ow[x.1]? with | some o => q_has x.2.2.2 (.constantLong o x.2.1 x.2.2.1) | none => false) = true := by decide +kernel
def q_ki (w j : Nat) : Option Int32 := (q_kiL.find? (fun x => x.1 == w && x.2.1 == j)).map (fun x => x.2.2.1)
def q_kl (w j : Nat) : Option Int64 := (q_klL.find? (fun x => x.1 == w && x.2.1 == j)).map (fun x => x.2.2.1)
theorem ki_3_125 : q_ki 3 125 = some 1668112752 := rfl
theorem ki_3_130 : q_ki 3 130 = some 1735162214 := rfl
theorem ki_3_131 : q_ki 3 131 = some 1751474532 := rfl
theorem ki_3_132 : q_ki 3 132 = some 1751672161 := rfl
theorem ki_3_133 : q_ki 3 133 = some 1752003704 := rfl
theorem ki_3_134 : q_ki 3 134 = some 1819239265 := rfl
theorem ki_3_135 : q_ki 3 135 = some 1835104368 := rfl
theorem ki_1_70 : q_ki 1 70 = some 65535 := rfl
theorem ki_12_265 : q_ki 12 265 = some 1431655765 := rfl
theorem ki_12_266 : q_ki 12 266 = some 858993459 := rfl
theorem ki_12_267 : q_ki 12 267 = some 252645135 := rfl
theorem ki_7_92 : q_ki 7 92 = some 1114111 := rfl
theorem ki_8_83 : q_ki 8 83 = some 1668112752 := rfl
theorem ki_8_84 : q_ki 8 84 = some 1735162214 := rfl
theorem ki_8_85 : q_ki 8 85 = some 1751474532 := rfl
theorem ki_8_86 : q_ki 8 86 = some 1751672161 := rfl
theorem ki_8_87 : q_ki 8 87 = some 1752003704 := rfl
theorem ki_8_88 : q_ki 8 88 = some 1819239265 := rfl
theorem ki_8_89 : q_ki 8 89 = some 1835104368 := rfl
theorem ki_8_211 : q_ki 8 211 = some 65535 := rfl
theorem ki_8_123 : q_ki 8 123 = some 65536 := rfl
theorem ki_8_284 : q_ki 8 284 = some 32768 := rfl
theorem ki_8_236 : q_ki 8 236 = some 1114111 := rfl
theorem kl_3_102 : q_kl 3 102 = some 65536 := rfl
theorem kl_3_104 : q_kl 3 104 = some 12 := rfl
theorem kl_3_110 : q_kl 3 110 = some (-1) := rfl
theorem kl_3_123 : q_kl 3 123 = some 4294967295 := rfl
theorem kl_1_32 : q_kl 1 32 = some 4 := rfl
theorem kl_1_56 : q_kl 1 56 = some 16 := rfl
theorem kl_1_58 : q_kl 1 58 = some 12 := rfl
theorem kl_1_60 : q_kl 1 60 = some (-1) := rfl
theorem kl_1_62 : q_kl 1 62 = some 1114111 := rfl
theorem kl_1_77 : q_kl 1 77 = some 4294967295 := rfl
theorem kl_1_82 : q_kl 1 82 = some 2 := rfl
theorem kl_8_124 : q_kl 8 124 = some 65536 := rfl
theorem kl_8_126 : q_kl 8 126 = some 2 := rfl
theorem kl_8_139 : q_kl 8 139 = some 4 := rfl
theorem kl_8_145 : q_kl 8 145 = some (-1) := rfl
theorem kl_8_147 : q_kl 8 147 = some 12 := rfl
theorem kl_8_149 : q_kl 8 149 = some 16 := rfl
theorem kl_8_151 : q_kl 8 151 = some 8 := rfl
theorem kl_8_153 : q_kl 8 153 = some 24 := rfl
theorem kl_8_155 : q_kl 8 155 = some 4294967295 := rfl
theorem kl_8_173 : q_kl 8 173 = some 18 := rfl
theorem kl_8_167 : q_kl 8 167 = some 50 := rfl
theorem kl_8_165 : q_kl 8 165 = some 34 := rfl
theorem kl_8_203 : q_kl 8 203 = some 1114111 := rfl
theorem kl_8_205 : q_kl 8 205 = some 6 := rfl
theorem kl_8_207 : q_kl 8 207 = some 14 := rfl
theorem kl_8_209 : q_kl 8 209 = some 3 := rfl
theorem kl_8_270 : q_kl 8 270 = some 10 := rfl
theorem kl_8_243 : q_kl 8 243 = some (-16384) := rfl
theorem kl_8_245 : q_kl 8 245 = some 16383 := rfl
theorem kl_8_289 : q_kl 8 289 = some 5 := rfl
theorem kl_8_294 : q_kl 8 294 = some 16384 := rfl
def q_cnL : List (Nat × Nat × Nat × Nat × Nat × Nat) := [(9, 8, 7, 93, 94, 74), (7, 9, 0, 101, 102, 75), (7, 16, 3, 121, 122, 76), (3, 9, 0, 127, 102, 75), (3, 18, 6, 129, 130, 77), (3, 51, 1, 149, 150, 78), (7, 26, 4, 220, 221, 79), (4, 24, 2, 226, 227, 80), (4, 33, 5, 248, 250, 81), (5, 9, 2, 255, 227, 80), (9, 37, 8, 813, 814, 82)]
def q_okN (x : Nat × Nat × Nat × Nat × Nat × Nat) : Bool := match q_ow[x.1]?, q_cl[x.2.2.1]? with
  | some o, some (C, _, N) => q_has x.2.2.2.1 (.classLink o x.2.1 C) && q_has x.2.2.2.2.1 (.instantiable C N) && q_has x.2.2.2.2.2 (.initialized C)
  | _, _ => false
theorem q_cnL_ok : q_cnL.all q_okN = true := by decide +kernel
def q_cn (w j : Nat) : Option Nat := (q_cnL.find? (fun x => x.1 == w && x.2.1 == j)).map (fun x => x.2.2.1)
theorem cn_9_8 : q_cn 9 8 = some 7 := rfl
theorem cn_7_9 : q_cn 7 9 = some 0 := rfl
theorem cn_7_16 : q_cn 7 16 = some 3 := rfl
theorem cn_3_9 : q_cn 3 9 = some 0 := rfl
theorem cn_3_18 : q_cn 3 18 = some 6 := rfl
theorem cn_3_51 : q_cn 3 51 = some 1 := rfl
theorem cn_7_26 : q_cn 7 26 = some 4 := rfl
theorem cn_4_24 : q_cn 4 24 = some 2 := rfl
theorem cn_4_33 : q_cn 4 33 = some 5 := rfl
theorem cn_5_9 : q_cn 5 9 = some 2 := rfl
theorem cn_9_37 : q_cn 9 37 = some 8 := rfl
def q_mlL0 : List (Nat × Nat × Nat × q_MT × Nat × List Nat) := [(9, 36, 0, M_FO_init, 1, [95, 96, 74]), (7, 11, 0, M_By_init, 1, [103, 104, 75]), (7, 18, 0, M_Fo_init, 1, [123, 124, 76]), (3, 11, 0, M_By_init, 1, [128, 104, 75]), (3, 20, 1, M_Ta_init, 1, [131, 132, 77]), (3, 53, 1, M_Cm_init, 1, [151, 152, 78]), (7, 28, 1, M_Ou_init, 1, [222, 223, 79]), (4, 26, 1, M_Cu_init, 1, [228, 229, 80]), (4, 39, 1, M_Pa_init, 1, [251, 252, 81]), (5, 11, 1, M_Cu_init, 1, [256, 229, 80]), (9, 40, 5, M_FO_feed, 0, [346, 347, 348, 74]), (7, 46, 1, M_By_makeRoom, 0, [350, 351, 352, 75]), (0, 28, 2, M_Ar_copyOf, 2, [360, 361, 84]), (7, 50, 1, M_By_addWord, 0, [374, 375, 376, 75]), (9, 55, 1, M_FO_at, 0, [378, 379, 380, 74]), (7, 65, 1, M_By_u8, 0, [382, 383, 384, 75]), (9, 63, 1, M_FO_load, 0, [386, 387, 388, 74]), (7, 75, 1, M_Fo_takeFile, 0, [390, 391, 392, 76]), (3, 60, 1, M_By_copy, 0, [394, 395, 396, 75]), (0, 34, 1, M_By_makeRoom, 0, [398, 351, 352, 75]), (3, 67, 2, M_Ta_lay, 0, [400, 401, 402, 77]), (7, 78, 1, M_Fo_firstWrong, 0, [404, 405, 406, 76]), (3, 71, 0, M_Fo_isFile, 0, [408, 410, 0, 76]), (3, 94, 0, M_Fo_tables, 0, [412, 414, 1, 76]), (3, 90, 1, M_Ta_u16, 0, [416, 417, 418, 77]), (6, 29, 1, M_Ta_u8, 0, [420, 421, 422, 77]), (3, 98, 1, M_Ta_u32, 0, [424, 425, 426, 77]), (3, 106, 2, M_Ta_holds, 0, [430, 431, 432, 77]), (3, 75, 0, M_Fo_hasSums, 0, [435, 437, 2, 76]), (3, 112, 2, M_Fo_layByEntry, 0, [439, 441, 3, 76]), (3, 116, 1, M_Fo_sum, 0, [443, 445, 4, 76]), (3, 78, 0, M_Fo_hasTables, 0, [448, 450, 5, 76]), (3, 126, 2, M_Fo_finds, 0, [453, 455, 6, 76]), (3, 81, 0, M_Fo_hasCounts, 0, [463, 465, 7, 76]), (3, 84, 0, M_Fo_hasPlaces, 0, [467, 469, 8, 76]), (3, 149, 1, M_Fo_dataPlace, 0, [471, 472, 473, 76]), (3, 87, 0, M_Cm_isFound, 0, [475, 476, 477, 78]), (1, 26, 1, M_Ta_u16, 0, [479, 417, 418, 77]), (1, 34, 2, M_Ta_holds, 0, [481, 431, 432, 77]), (1, 38, 2, M_Cm_firstEntry, 0, [482, 484, 9, 78]), (1, 42, 1, M_Ta_u32, 0, [486, 425, 426, 77]), (1, 49, 0, M_Cm_hasGroups, 0, [487, 489, 10, 78]), (1, 53, 0, M_Cm_hasSegments, 0, [495, 497, 11, 78]), (1, 64, 1, M_Cm_lastOf, 0, [499, 501, 12, 78]), (1, 67, 1, M_Cm_firstOf, 0, [503, 505, 13, 78]), (7, 82, 1, M_Ou_readsAll, 0, [508, 509, 510, 79]), (4, 46, 2, M_Ou_readGlyph, 0, [512, 513, 514, 79]), (4, 59, 3, M_Ou_addsGlyph, 0, [516, 518, 14, 79]), (4, 66, 1, M_Fo_dataPlace, 0, [520, 472, 473, 76]), (4, 74, 3, M_Cu_begin, 0, [521, 522, 523, 80]), (4, 78, 0, M_Cu_u16, 0, [526, 527, 528, 80]), (4, 82, 1, M_Cu_pass, 0, [530, 531, 532, 80]), (4, 91, 1, M_Cu_follow, 0, [534, 535, 536, 80]), (4, 95, 3, M_Ou_addsParts, 0, [538, 540, 15, 79]), (4, 118, 0, M_Pa_isRead, 0, [542, 543, 544, 81]), (5, 24, 0, M_Cu_u16, 0, [546, 527, 528, 80]), (5, 31, 0, M_Pa_number, 0, [547, 549, 16, 81]), (5, 53, 1, M_Pa_has, 0, [551, 552, 553, 81]), (5, 57, 0, M_Cu_u8, 0, [555, 556, 557, 80]), (5, 40, 0, M_Pa_readFactors, 0, [559, 561, 17, 81])]
def q_mlL1 : List (Nat × Nat × Nat × q_MT × Nat × List Nat) := [(5, 47, 1, M_In_bitCount, 2, [563, 564, 91]), (4, 125, 3, M_Ou_isLaid, 0, [569, 571, 18, 79]), (4, 129, 1, M_Pa_has, 0, [573, 552, 553, 81]), (4, 138, 2, M_Pa_turnedX, 0, [574, 575, 576, 81]), (4, 142, 2, M_Pa_turnedY, 0, [578, 579, 580, 81]), (4, 115, 1, M_Ou_isCoordinate, 0, [582, 584, 19, 79]), (4, 98, 1, M_Ou_addsSimple, 0, [586, 588, 20, 79]), (4, 102, 1, M_Ou_addsContours, 0, [590, 592, 21, 79]), (4, 105, 1, M_Ou_readsFlags, 0, [594, 596, 22, 79]), (4, 112, 0, M_Cu_u8, 0, [598, 556, 557, 80]), (4, 108, 4, M_Ou_readsAxis, 0, [599, 601, 23, 79]), (9, 7, 2, M_FO_put, 0, [608, 609, 610, 74]), (7, 69, 2, M_By_change, 0, [695, 696, 697, 75]), (9, 17, 1, M_FO_cut, 0, [702, 703, 704, 74]), (9, 21, 1, M_FO_glyph, 0, [711, 712, 713, 74]), (7, 89, 0, M_FO_needFont, 0, [715, 717, 25, 74]), (7, 99, 1, M_Cm_glyphOf, 0, [737, 738, 739, 78]), (1, 71, 1, M_Cm_glyphByGroups, 0, [741, 743, 26, 78]), (1, 74, 1, M_Cm_glyphBySegments, 0, [746, 748, 27, 78]), (1, 79, 2, M_Cm_glyphBySegment, 0, [750, 752, 28, 78]), (9, 26, 2, M_FO_measure, 0, [758, 759, 760, 74]), (7, 105, 1, M_FO_isGlyph, 0, [762, 764, 29, 74]), (7, 111, 1, M_FO_show, 0, [767, 769, 30, 74]), (7, 166, 2, M_Ou_readGlyph, 0, [771, 513, 514, 79]), (7, 117, 1, M_Fo_widthOf, 0, [772, 773, 774, 76]), (7, 120, 1, M_Fo_leftOf, 0, [777, 778, 779, 76]), (3, 158, 1, M_Ta_s16, 0, [781, 782, 783, 77]), (6, 33, 1, M_Ta_u16, 0, [785, 417, 418, 77]), (7, 133, 1, M_Ou_least, 0, [786, 787, 788, 79]), (7, 140, 1, M_Ou_greatest, 0, [791, 792, 793, 79]), (9, 29, 3, M_FO_point, 0, [799, 800, 801, 74]), (9, 33, 1, M_FO_font, 0, [808, 809, 810, 74]), (9, 39, 0, M_Mo_init, 1, [815, 816, 82]), (9, 51, 0, M_Mo_thrown, 0, [924, 925, 926, 82]), (9, 44, 5, M_Mo_feed, 0, [928, 929, 930, 82]), (8, 97, 1, M_Mo_put4, 0, [932, 934, 31, 82]), (9, 50, 2, M_Mo_put, 0, [936, 937, 938, 82]), (8, 101, 1, M_Mo_refused, 0, [940, 942, 32, 82]), (9, 58, 1, M_Mo_at, 0, [944, 945, 946, 82]), (9, 62, 1, M_Mo_cut, 0, [948, 949, 950, 82]), (9, 67, 1, M_Mo_load, 0, [952, 953, 954, 82]), (8, 215, 0, M_Mo_checkFile, 0, [956, 958, 33, 82]), (8, 135, 3, M_Mo_u32, 0, [960, 962, 34, 82]), (8, 120, 3, M_Mo_u16, 0, [965, 967, 35, 82]), (8, 116, 3, M_Mo_u8, 0, [969, 971, 36, 82]), (8, 109, 1, M_Mo_need, 0, [973, 975, 37, 82]), (8, 141, 0, M_Mo_tables, 0, [978, 980, 38, 82]), (8, 218, 0, M_Mo_checkSums, 0, [987, 989, 39, 82]), (8, 157, 2, M_Mo_sumOf, 0, [991, 993, 40, 82]), (8, 221, 0, M_Mo_findTables, 0, [997, 999, 41, 82]), (8, 224, 0, M_Mo_checkForms, 0, [1001, 1003, 42, 82]), (8, 161, 2, M_Mo_t16, 0, [1006, 1008, 43, 82]), (8, 128, 1, M_Mo_tableAt, 0, [1010, 1012, 44, 82]), (8, 132, 1, M_Mo_tableLength, 0, [1014, 1016, 45, 82]), (8, 175, 0, M_Mo_glyphCount, 0, [1019, 1021, 46, 82]), (8, 178, 0, M_Mo_longCount, 0, [1023, 1025, 47, 82]), (8, 181, 1, M_Mo_dataAt, 0, [1028, 1030, 48, 82]), (8, 169, 2, M_Mo_t32, 0, [1032, 1034, 49, 82]), (8, 185, 0, M_Mo_checkMap, 0, [1036, 1038, 50, 82]), (8, 192, 1, M_Mo_hasMap, 0, [1040, 1042, 51, 82])]
def q_mlL2 : List (Nat × Nat × Nat × q_MT × Nat × List Nat) := [(8, 188, 1, M_Mo_mapAt, 0, [1044, 1046, 52, 82]), (8, 196, 1, M_Mo_checkGroups, 0, [1048, 1050, 53, 82]), (8, 200, 1, M_Mo_checkSegments, 0, [1053, 1055, 54, 82]), (8, 227, 0, M_Mo_checkGlyphs, 0, [1061, 1063, 55, 82]), (8, 212, 1, M_Mo_readGlyph, 0, [1065, 1067, 56, 82]), (8, 253, 2, M_Mo_begin, 0, [1069, 1071, 57, 82]), (8, 263, 3, M_Mo_s16, 0, [1073, 1075, 58, 82]), (8, 266, 4, M_Mo_readSimple, 0, [1078, 1080, 59, 82]), (8, 272, 5, M_Mo_readFlags, 0, [1083, 1085, 60, 82]), (8, 276, 6, M_Mo_readSteps, 0, [1087, 1089, 61, 82]), (8, 280, 1, M_Mo_isCoordinate, 2, [1091, 1092, 82]), (8, 257, 1, M_Mo_readPart, 0, [1096, 1098, 62, 82]), (8, 285, 4, M_Mo_number, 0, [1100, 1102, 63, 82]), (8, 291, 2, M_Mo_f16, 0, [1106, 1108, 64, 82]), (8, 260, 1, M_Mo_join, 0, [1110, 1112, 65, 82]), (8, 296, 4, M_Mo_turned, 2, [1114, 1115, 82]), (9, 70, 1, M_Mo_glyph, 0, [1118, 1119, 1120, 82]), (8, 237, 1, M_Mo_groupGlyph, 0, [1123, 1125, 66, 82]), (8, 240, 1, M_Mo_segmentGlyph, 0, [1127, 1129, 67, 82]), (9, 73, 2, M_Mo_measure, 0, [1131, 1132, 1133, 82]), (8, 300, 1, M_Mo_isGlyph, 0, [1135, 1137, 68, 82]), (8, 303, 1, M_Mo_lends, 0, [1139, 1141, 69, 82]), (8, 306, 1, M_Mo_width, 0, [1143, 1145, 70, 82]), (8, 309, 1, M_Mo_left, 0, [1147, 1149, 71, 82]), (8, 312, 2, M_Mo_bound, 0, [1151, 1153, 72, 82]), (9, 77, 3, M_Mo_point, 0, [1155, 1156, 1157, 82]), (9, 80, 1, M_Mo_font, 0, [1159, 1160, 1161, 82])]
def q_mlL : List (Nat × Nat × Nat × q_MT × Nat × List Nat) := q_mlL0 ++ q_mlL1 ++ q_mlL2
def q_okL (x : Nat × Nat × Nat × q_MT × Nat × List Nat) : Bool := match q_ow[x.1]? with
  | some o => q_okM x.2.2.2.1 && decide ((parseMethodDescriptor (q_y x.2.2.2.1).desc).map (fun d => d.parameters.length) = some x.2.2.1) && (match x.2.2.2.2.1 with
    | 0 => q_hasL x.2.2.2.2.2 [.methodLink o x.2.1 (q_y x.2.2.2.1), .instanceMethod (q_y x.2.2.2.1), .selects (q_y x.2.2.2.1).cls (q_y x.2.2.2.1) (q_y x.2.2.2.1), .initialized (q_y x.2.2.2.1).cls]
    | 1 => q_hasL x.2.2.2.2.2 [.methodLink o x.2.1 (q_y x.2.2.2.1), .instanceMethod (q_y x.2.2.2.1), .initialized (q_y x.2.2.2.1).cls] && decide ((q_y x.2.2.2.1).name = "<init>") && decide (q_r x.2.2.2.1 = none)
    | _ => q_hasL x.2.2.2.2.2 [.methodLink o x.2.1 (q_y x.2.2.2.1), .static (q_y x.2.2.2.1), .initialized (q_y x.2.2.2.1).cls])
  | none => false
theorem q_mlL0_ok : q_mlL0.all q_okL = true := by decide +kernel
theorem q_mlL1_ok : q_mlL1.all q_okL = true := by decide +kernel
theorem q_mlL2_ok : q_mlL2.all q_okL = true := by decide +kernel
theorem q_mlL_ok : q_mlL.all q_okL = true := by
  unfold q_mlL
  simp only [List.all_append, q_mlL0_ok, q_mlL1_ok, q_mlL2_ok, Bool.and_self]
def q_ml (w j : Nat) : Option (Nat × q_MT × Nat) := (q_mlL.find? (fun x => x.1 == w && x.2.1 == j)).map (fun x => (x.2.2.1, x.2.2.2.1, x.2.2.2.2.1))
theorem ml_9_36 : q_ml 9 36 = some (0, M_FO_init, 1) := rfl
theorem ml_7_11 : q_ml 7 11 = some (0, M_By_init, 1) := rfl
theorem ml_7_18 : q_ml 7 18 = some (0, M_Fo_init, 1) := rfl
theorem ml_3_11 : q_ml 3 11 = some (0, M_By_init, 1) := rfl
theorem ml_3_20 : q_ml 3 20 = some (1, M_Ta_init, 1) := rfl
theorem ml_3_53 : q_ml 3 53 = some (1, M_Cm_init, 1) := rfl
theorem ml_7_28 : q_ml 7 28 = some (1, M_Ou_init, 1) := rfl
theorem ml_4_26 : q_ml 4 26 = some (1, M_Cu_init, 1) := rfl
theorem ml_4_39 : q_ml 4 39 = some (1, M_Pa_init, 1) := rfl
theorem ml_5_11 : q_ml 5 11 = some (1, M_Cu_init, 1) := rfl
theorem ml_9_40 : q_ml 9 40 = some (5, M_FO_feed, 0) := rfl
theorem ml_7_46 : q_ml 7 46 = some (1, M_By_makeRoom, 0) := rfl
theorem ml_0_28 : q_ml 0 28 = some (2, M_Ar_copyOf, 2) := rfl
theorem ml_7_50 : q_ml 7 50 = some (1, M_By_addWord, 0) := rfl
theorem ml_9_55 : q_ml 9 55 = some (1, M_FO_at, 0) := rfl
theorem ml_7_65 : q_ml 7 65 = some (1, M_By_u8, 0) := rfl
theorem ml_9_63 : q_ml 9 63 = some (1, M_FO_load, 0) := rfl
theorem ml_7_75 : q_ml 7 75 = some (1, M_Fo_takeFile, 0) := rfl
theorem ml_3_60 : q_ml 3 60 = some (1, M_By_copy, 0) := rfl
theorem ml_0_34 : q_ml 0 34 = some (1, M_By_makeRoom, 0) := rfl
theorem ml_3_67 : q_ml 3 67 = some (2, M_Ta_lay, 0) := rfl
theorem ml_7_78 : q_ml 7 78 = some (1, M_Fo_firstWrong, 0) := rfl
theorem ml_3_71 : q_ml 3 71 = some (0, M_Fo_isFile, 0) := rfl
theorem ml_3_94 : q_ml 3 94 = some (0, M_Fo_tables, 0) := rfl
theorem ml_3_90 : q_ml 3 90 = some (1, M_Ta_u16, 0) := rfl
theorem ml_6_29 : q_ml 6 29 = some (1, M_Ta_u8, 0) := rfl
theorem ml_3_98 : q_ml 3 98 = some (1, M_Ta_u32, 0) := rfl
theorem ml_3_106 : q_ml 3 106 = some (2, M_Ta_holds, 0) := rfl
theorem ml_3_75 : q_ml 3 75 = some (0, M_Fo_hasSums, 0) := rfl
theorem ml_3_112 : q_ml 3 112 = some (2, M_Fo_layByEntry, 0) := rfl
theorem ml_3_116 : q_ml 3 116 = some (1, M_Fo_sum, 0) := rfl
theorem ml_3_78 : q_ml 3 78 = some (0, M_Fo_hasTables, 0) := rfl
theorem ml_3_126 : q_ml 3 126 = some (2, M_Fo_finds, 0) := rfl
theorem ml_3_81 : q_ml 3 81 = some (0, M_Fo_hasCounts, 0) := rfl
theorem ml_3_84 : q_ml 3 84 = some (0, M_Fo_hasPlaces, 0) := rfl
theorem ml_3_149 : q_ml 3 149 = some (1, M_Fo_dataPlace, 0) := rfl
theorem ml_3_87 : q_ml 3 87 = some (0, M_Cm_isFound, 0) := rfl
theorem ml_1_26 : q_ml 1 26 = some (1, M_Ta_u16, 0) := rfl
theorem ml_1_34 : q_ml 1 34 = some (2, M_Ta_holds, 0) := rfl
theorem ml_1_38 : q_ml 1 38 = some (2, M_Cm_firstEntry, 0) := rfl
theorem ml_1_42 : q_ml 1 42 = some (1, M_Ta_u32, 0) := rfl
theorem ml_1_49 : q_ml 1 49 = some (0, M_Cm_hasGroups, 0) := rfl
theorem ml_1_53 : q_ml 1 53 = some (0, M_Cm_hasSegments, 0) := rfl
theorem ml_1_64 : q_ml 1 64 = some (1, M_Cm_lastOf, 0) := rfl
theorem ml_1_67 : q_ml 1 67 = some (1, M_Cm_firstOf, 0) := rfl
theorem ml_7_82 : q_ml 7 82 = some (1, M_Ou_readsAll, 0) := rfl
theorem ml_4_46 : q_ml 4 46 = some (2, M_Ou_readGlyph, 0) := rfl
theorem ml_4_59 : q_ml 4 59 = some (3, M_Ou_addsGlyph, 0) := rfl
theorem ml_4_66 : q_ml 4 66 = some (1, M_Fo_dataPlace, 0) := rfl
theorem ml_4_74 : q_ml 4 74 = some (3, M_Cu_begin, 0) := rfl
theorem ml_4_78 : q_ml 4 78 = some (0, M_Cu_u16, 0) := rfl
theorem ml_4_82 : q_ml 4 82 = some (1, M_Cu_pass, 0) := rfl
theorem ml_4_91 : q_ml 4 91 = some (1, M_Cu_follow, 0) := rfl
theorem ml_4_95 : q_ml 4 95 = some (3, M_Ou_addsParts, 0) := rfl
theorem ml_4_118 : q_ml 4 118 = some (0, M_Pa_isRead, 0) := rfl
theorem ml_5_24 : q_ml 5 24 = some (0, M_Cu_u16, 0) := rfl
theorem ml_5_31 : q_ml 5 31 = some (0, M_Pa_number, 0) := rfl
theorem ml_5_53 : q_ml 5 53 = some (1, M_Pa_has, 0) := rfl
theorem ml_5_57 : q_ml 5 57 = some (0, M_Cu_u8, 0) := rfl
theorem ml_5_40 : q_ml 5 40 = some (0, M_Pa_readFactors, 0) := rfl
theorem ml_5_47 : q_ml 5 47 = some (1, M_In_bitCount, 2) := rfl
theorem ml_4_125 : q_ml 4 125 = some (3, M_Ou_isLaid, 0) := rfl
theorem ml_4_129 : q_ml 4 129 = some (1, M_Pa_has, 0) := rfl
theorem ml_4_138 : q_ml 4 138 = some (2, M_Pa_turnedX, 0) := rfl
theorem ml_4_142 : q_ml 4 142 = some (2, M_Pa_turnedY, 0) := rfl
theorem ml_4_115 : q_ml 4 115 = some (1, M_Ou_isCoordinate, 0) := rfl
theorem ml_4_98 : q_ml 4 98 = some (1, M_Ou_addsSimple, 0) := rfl
theorem ml_4_102 : q_ml 4 102 = some (1, M_Ou_addsContours, 0) := rfl
theorem ml_4_105 : q_ml 4 105 = some (1, M_Ou_readsFlags, 0) := rfl
theorem ml_4_112 : q_ml 4 112 = some (0, M_Cu_u8, 0) := rfl
theorem ml_4_108 : q_ml 4 108 = some (4, M_Ou_readsAxis, 0) := rfl
theorem ml_9_7 : q_ml 9 7 = some (2, M_FO_put, 0) := rfl
theorem ml_7_69 : q_ml 7 69 = some (2, M_By_change, 0) := rfl
theorem ml_9_17 : q_ml 9 17 = some (1, M_FO_cut, 0) := rfl
theorem ml_9_21 : q_ml 9 21 = some (1, M_FO_glyph, 0) := rfl
theorem ml_7_89 : q_ml 7 89 = some (0, M_FO_needFont, 0) := rfl
theorem ml_7_99 : q_ml 7 99 = some (1, M_Cm_glyphOf, 0) := rfl
theorem ml_1_71 : q_ml 1 71 = some (1, M_Cm_glyphByGroups, 0) := rfl
theorem ml_1_74 : q_ml 1 74 = some (1, M_Cm_glyphBySegments, 0) := rfl
theorem ml_1_79 : q_ml 1 79 = some (2, M_Cm_glyphBySegment, 0) := rfl
theorem ml_9_26 : q_ml 9 26 = some (2, M_FO_measure, 0) := rfl
theorem ml_7_105 : q_ml 7 105 = some (1, M_FO_isGlyph, 0) := rfl
theorem ml_7_111 : q_ml 7 111 = some (1, M_FO_show, 0) := rfl
theorem ml_7_166 : q_ml 7 166 = some (2, M_Ou_readGlyph, 0) := rfl
theorem ml_7_117 : q_ml 7 117 = some (1, M_Fo_widthOf, 0) := rfl
theorem ml_7_120 : q_ml 7 120 = some (1, M_Fo_leftOf, 0) := rfl
theorem ml_3_158 : q_ml 3 158 = some (1, M_Ta_s16, 0) := rfl
theorem ml_6_33 : q_ml 6 33 = some (1, M_Ta_u16, 0) := rfl
theorem ml_7_133 : q_ml 7 133 = some (1, M_Ou_least, 0) := rfl
theorem ml_7_140 : q_ml 7 140 = some (1, M_Ou_greatest, 0) := rfl
theorem ml_9_29 : q_ml 9 29 = some (3, M_FO_point, 0) := rfl
theorem ml_9_33 : q_ml 9 33 = some (1, M_FO_font, 0) := rfl
theorem ml_9_39 : q_ml 9 39 = some (0, M_Mo_init, 1) := rfl
theorem ml_9_51 : q_ml 9 51 = some (0, M_Mo_thrown, 0) := rfl
theorem ml_9_44 : q_ml 9 44 = some (5, M_Mo_feed, 0) := rfl
theorem ml_8_97 : q_ml 8 97 = some (1, M_Mo_put4, 0) := rfl
theorem ml_9_50 : q_ml 9 50 = some (2, M_Mo_put, 0) := rfl
theorem ml_8_101 : q_ml 8 101 = some (1, M_Mo_refused, 0) := rfl
theorem ml_9_58 : q_ml 9 58 = some (1, M_Mo_at, 0) := rfl
theorem ml_9_62 : q_ml 9 62 = some (1, M_Mo_cut, 0) := rfl
theorem ml_9_67 : q_ml 9 67 = some (1, M_Mo_load, 0) := rfl
theorem ml_8_215 : q_ml 8 215 = some (0, M_Mo_checkFile, 0) := rfl
theorem ml_8_135 : q_ml 8 135 = some (3, M_Mo_u32, 0) := rfl
theorem ml_8_120 : q_ml 8 120 = some (3, M_Mo_u16, 0) := rfl
theorem ml_8_116 : q_ml 8 116 = some (3, M_Mo_u8, 0) := rfl
theorem ml_8_109 : q_ml 8 109 = some (1, M_Mo_need, 0) := rfl
theorem ml_8_141 : q_ml 8 141 = some (0, M_Mo_tables, 0) := rfl
theorem ml_8_218 : q_ml 8 218 = some (0, M_Mo_checkSums, 0) := rfl
theorem ml_8_157 : q_ml 8 157 = some (2, M_Mo_sumOf, 0) := rfl
theorem ml_8_221 : q_ml 8 221 = some (0, M_Mo_findTables, 0) := rfl
theorem ml_8_224 : q_ml 8 224 = some (0, M_Mo_checkForms, 0) := rfl
theorem ml_8_161 : q_ml 8 161 = some (2, M_Mo_t16, 0) := rfl
theorem ml_8_128 : q_ml 8 128 = some (1, M_Mo_tableAt, 0) := rfl
theorem ml_8_132 : q_ml 8 132 = some (1, M_Mo_tableLength, 0) := rfl
theorem ml_8_175 : q_ml 8 175 = some (0, M_Mo_glyphCount, 0) := rfl
theorem ml_8_178 : q_ml 8 178 = some (0, M_Mo_longCount, 0) := rfl
theorem ml_8_181 : q_ml 8 181 = some (1, M_Mo_dataAt, 0) := rfl
theorem ml_8_169 : q_ml 8 169 = some (2, M_Mo_t32, 0) := rfl
theorem ml_8_185 : q_ml 8 185 = some (0, M_Mo_checkMap, 0) := rfl
theorem ml_8_192 : q_ml 8 192 = some (1, M_Mo_hasMap, 0) := rfl
theorem ml_8_188 : q_ml 8 188 = some (1, M_Mo_mapAt, 0) := rfl
theorem ml_8_196 : q_ml 8 196 = some (1, M_Mo_checkGroups, 0) := rfl
theorem ml_8_200 : q_ml 8 200 = some (1, M_Mo_checkSegments, 0) := rfl
theorem ml_8_227 : q_ml 8 227 = some (0, M_Mo_checkGlyphs, 0) := rfl
theorem ml_8_212 : q_ml 8 212 = some (1, M_Mo_readGlyph, 0) := rfl
theorem ml_8_253 : q_ml 8 253 = some (2, M_Mo_begin, 0) := rfl
theorem ml_8_263 : q_ml 8 263 = some (3, M_Mo_s16, 0) := rfl
theorem ml_8_266 : q_ml 8 266 = some (4, M_Mo_readSimple, 0) := rfl
theorem ml_8_272 : q_ml 8 272 = some (5, M_Mo_readFlags, 0) := rfl
theorem ml_8_276 : q_ml 8 276 = some (6, M_Mo_readSteps, 0) := rfl
theorem ml_8_280 : q_ml 8 280 = some (1, M_Mo_isCoordinate, 2) := rfl
theorem ml_8_257 : q_ml 8 257 = some (1, M_Mo_readPart, 0) := rfl
theorem ml_8_285 : q_ml 8 285 = some (4, M_Mo_number, 0) := rfl
theorem ml_8_291 : q_ml 8 291 = some (2, M_Mo_f16, 0) := rfl
theorem ml_8_260 : q_ml 8 260 = some (1, M_Mo_join, 0) := rfl
theorem ml_8_296 : q_ml 8 296 = some (4, M_Mo_turned, 2) := rfl
theorem ml_9_70 : q_ml 9 70 = some (1, M_Mo_glyph, 0) := rfl
theorem ml_8_237 : q_ml 8 237 = some (1, M_Mo_groupGlyph, 0) := rfl
theorem ml_8_240 : q_ml 8 240 = some (1, M_Mo_segmentGlyph, 0) := rfl
theorem ml_9_73 : q_ml 9 73 = some (2, M_Mo_measure, 0) := rfl
theorem ml_8_300 : q_ml 8 300 = some (1, M_Mo_isGlyph, 0) := rfl
theorem ml_8_303 : q_ml 8 303 = some (1, M_Mo_lends, 0) := rfl
theorem ml_8_306 : q_ml 8 306 = some (1, M_Mo_width, 0) := rfl
theorem ml_8_309 : q_ml 8 309 = some (1, M_Mo_left, 0) := rfl
theorem ml_8_312 : q_ml 8 312 = some (2, M_Mo_bound, 0) := rfl
theorem ml_9_77 : q_ml 9 77 = some (3, M_Mo_point, 0) := rfl
theorem ml_9_80 : q_ml 9 80 = some (1, M_Mo_font, 0) := rfl
def q_mmL : List (Nat × Nat × Bool × Nat) := [(0, 19, true, 354), (0, 25, false, 357), (11, 304, false, 370), (2, 35, false, 525), (3, 152, false, 776), (4, 145, false, 790), (4, 150, true, 795)]
theorem q_mmL_ok : q_mmL.all (fun x => match q_ow[x.1]? with | some o => q_has x.2.2.2 (.methodLink o x.2.1 (if x.2.2.1 then Lib.Math.max.name else Lib.Math.min.name)) | none => false) = true := by decide +kernel
def q_mm (w j : Nat) : Option Bool := (q_mmL.find? (fun x => x.1 == w && x.2.1 == j)).map (fun x => x.2.2.1)
theorem mm_0_19 : q_mm 0 19 = some true := rfl
theorem mm_0_25 : q_mm 0 25 = some false := rfl
theorem mm_11_304 : q_mm 11 304 = some false := rfl
theorem mm_2_35 : q_mm 2 35 = some false := rfl
theorem mm_3_152 : q_mm 3 152 = some false := rfl
theorem mm_4_145 : q_mm 4 145 = some false := rfl
theorem mm_4_150 : q_mm 4 150 = some true := rfl
theorem q_st_max : Cond.static Lib.Math.max.name ∈ q_tbl := q_has_in (i := 355) (by decide +kernel)
theorem q_co_max : Cond.code Lib.Math.max.name Lib.Math.max.code 2 (some .int) ∈ q_tbl := q_has_in (i := 356) (by decide +kernel)
theorem q_st_min : Cond.static Lib.Math.min.name ∈ q_tbl := q_has_in (i := 358) (by decide +kernel)
theorem q_co_min : Cond.code Lib.Math.min.name Lib.Math.min.code 2 (some .int) ∈ q_tbl := q_has_in (i := 359) (by decide +kernel)
theorem q_in_Math : Cond.initialized "java/lang/Math" ∈ q_tbl := q_has_in (i := 83) (by decide +kernel)
def q_acL : List (Nat × Nat × Nat) := [(11, 150, 371), (0, 38, 399)]
theorem q_acL_ok : q_acL.all (fun x => match q_ow[x.1]? with | some o => q_has x.2.2 (.methodLink o x.2.1 arraycopyName) | none => false) = true := by decide +kernel
def q_ac (w j : Nat) : Bool := q_acL.any (fun x => x.1 == w && x.2.1 == j)
theorem ac_11_150 : q_ac 11 150 = true := rfl
theorem ac_0_38 : q_ac 0 38 = true := rfl
theorem q_st_ac : Cond.static arraycopyName ∈ q_tbl := q_has_in (i := 372) (by decide +kernel)
theorem q_na_ac : Cond.native arraycopyName ∈ q_tbl := q_has_in (i := 373) (by decide +kernel)
theorem q_in_Sys : Cond.initialized "java/lang/System" ∈ q_tbl := q_has_in (i := 85) (by decide +kernel)
def q_oiL : List (Nat × Nat × Nat) := [(7, 3, 98), (0, 3, 106), (3, 3, 126), (6, 1, 134), (1, 3, 154), (4, 3, 225), (2, 1, 231), (5, 3, 254), (8, 1, 818)]
theorem q_oiL_ok : q_oiL.all (fun x => match q_ow[x.1]? with | some o => q_has x.2.2 (.methodLink o x.2.1 Lib.objectInit) | none => false) = true := by decide +kernel
def q_oi (w j : Nat) : Bool := q_oiL.any (fun x => x.1 == w && x.2.1 == j)
theorem oi_7_3 : q_oi 7 3 = true := rfl
theorem oi_0_3 : q_oi 0 3 = true := rfl
theorem oi_3_3 : q_oi 3 3 = true := rfl
theorem oi_6_1 : q_oi 6 1 = true := rfl
theorem oi_1_3 : q_oi 1 3 = true := rfl
theorem oi_4_3 : q_oi 4 3 = true := rfl
theorem oi_2_1 : q_oi 2 1 = true := rfl
theorem oi_5_3 : q_oi 5 3 = true := rfl
theorem oi_8_1 : q_oi 8 1 = true := rfl
def q_anL : List (Nat × Nat × Nat) := [(4, 33, 248)]
theorem q_anL_ok : q_anL.all (fun x => match q_ow[x.1]? with | some o => q_has x.2.2 (.classLink o x.2.1 "FontOutlines$Part") | none => false) = true := by decide +kernel
def q_an (w j : Nat) : Bool := q_anL.any (fun x => x.1 == w && x.2.1 == j)
theorem an_4_33 : q_an 4 33 = true := rfl
theorem q_ao : Cond.arrayOver (.object "FontOutlines$Part") ∈ lw_tbl := List.mem_of_getElem? (i := 249) (by decide +kernel)
theorem q_oIn : Cond.instanceMethod Lib.objectInit ∈ q_tbl := q_has_in (i := 99) (by decide +kernel)
theorem q_oCo : Cond.code Lib.objectInit ⟨#[0xb1]⟩ 1 none ∈ q_tbl := q_has_in (i := 100) (by decide +kernel)
theorem q_ac_int : Cond.arrayClass .int ∈ q_tbl := q_has_in (i := 247) (by decide +kernel)
theorem q_ac_byte : Cond.arrayClass .byte ∈ q_tbl := q_has_in (i := 120) (by decide +kernel)
theorem q_ac_long : Cond.arrayClass .long ∈ q_tbl := q_has_in (i := 1163) (by decide +kernel)
theorem q_ac_boolean : Cond.arrayClass .boolean ∈ q_tbl := q_has_in (i := 923) (by decide +kernel)
end
section
/-! MY MACHINE: abstract cells, locals as a list, blocks of instructions; what an instruction asks, as a proposition -/
abbrev q_E : Type := (Nat × vp_A) ⊕ (Nat × List Value)
abbrev q_H : Type := Nat → Option q_E
/-- class numbers and slots; the classes of the kinds of arrays; where new cells begin -/
abbrev q_G : Type := va_G × (Nat → ClassId) × Nat
abbrev q_L : Type := List (Option Value)
abbrev q_P : Type := Option Value → q_H → Nat → Prop
/-- locals, stack, cells, the next address, cells and slots used -/
abbrev q_C : Type := q_L → List Value → q_H → Nat → Nat → Nat → Prop
abbrev q_B : Type := List (Nat × List (Instr × Nat × Nat) × Nat)
def q_kind : Nat → FieldType
  | 0 => .int
  | 1 => .byte
  | 2 => .long
  | 3 => .boolean
  | _ => .object "FontOutlines$Part"
def q_tys (G : q_G) : List (ClassId × FieldType) := [(G.2.1 0, .int), (G.2.1 1, .byte), (G.2.1 2, .long), (G.2.1 3, .boolean), (G.2.1 4, .object "FontOutlines$Part")]
def q_e (G : q_G) (e : q_E) : va_E := match e with
  | .inl a => .inl (G.2.1 a.1, a.2)
  | .inr o => .inr o
def q_set (h : q_H) (a : Nat) (e : q_E) : q_H := fun b => if b = a then some e else h b
def q_rel (G : q_G) (h : q_H) (n : Nat) (H : Heap) : Prop := H.size = n ∧ ∀ (a : Nat) (e : q_E), h a = some e → G.2.2 ≤ a ∧ va_at G.1 q_cl (a, q_e G e) H
theorem q_rel.lt {G : q_G} {h : q_H} {n : Nat} {H : Heap} (r : q_rel G h n H) {a : Nat} {e : q_E} (ha : h a = some e) : a < n := by
  have := (r.2 a e ha).2.lt
  rw [r.1] at this
  exact this
theorem q_rel.upd {G : q_G} {h : q_H} {n : Nat} {H H1 : Heap} (r : q_rel G h n H) {a : Nat} {e0 e1 : q_E} (ha : h a = some e0) (hat : va_at G.1 q_cl (a, q_e G e1) H1) (hz : H1.size = H.size) (ho : ∀ q : Nat, q ≠ a → H1[q]? = H[q]?) : q_rel G (q_set h a e1) n H1 := by
  refine ⟨hz.trans r.1, fun b e hb => ?_⟩
  unfold q_set at hb
  by_cases hba : b = a
  · rw [if_pos hba] at hb
    cases hb
    subst hba
    exact ⟨(r.2 b e0 ha).1, hat⟩
  · rw [if_neg hba] at hb
    exact ⟨(r.2 b e hb).1, (r.2 b e hb).2.kept (ho b hba)⟩
theorem q_rel.push {G : q_G} {h : q_H} {n : Nat} {H H1 : Heap} (r : q_rel G h n H) {e1 : q_E} (hb : G.2.2 ≤ n) (hat : va_at G.1 q_cl (n, q_e G e1) H1) (hz : H1.size = n + 1) (ho : ∀ q : Nat, q < n → H1[q]? = H[q]?) : q_rel G (q_set h n e1) (n + 1) H1 := by
  refine ⟨hz, fun b e he => ?_⟩
  unfold q_set at he
  by_cases hba : b = n
  · rw [if_pos hba] at he
    cases he
    subst hba
    exact ⟨hb, hat⟩
  · rw [if_neg hba] at he
    exact ⟨(r.2 b e he).1, (r.2 b e he).2.kept (ho b (r.lt he))⟩
-- locals
def q_get : q_L → Nat → Option Value
  | [], _ => none
  | o :: _, 0 => o
  | _ :: r, i + 1 => q_get r i
def q_n2 : Option Value → Option Value
  | some (.long _) => none
  | some (.double _) => none
  | o => o
def q_p1 : q_L → Nat → Value → q_L
  | [], _, _ => []
  | _ :: r, 0, v => some v :: r
  | o :: r, 1, v => q_n2 o :: q_p1 r 0 v
  | o :: r, i + 2, v => o :: q_p1 r (i + 1) v
def q_p2 : q_L → Nat → Value → q_L
  | [], _, _ => []
  | [_], 0, v => [some v]
  | _ :: _ :: r, 0, v => some v :: none :: r
  | o :: r, 1, v => q_n2 o :: q_p2 r 0 v
  | o :: r, i + 2, v => o :: q_p2 r (i + 1) v
def q_pr : Nat → q_L → List (Nat × Value)
  | _, [] => []
  | i, none :: r => q_pr (i + 1) r
  | i, some v :: r => (i, v) :: q_pr (i + 1) r
theorem q_pr_m : ∀ (lv : q_L) (i j : Nat) (v : Value), (j, v) ∈ q_pr i lv ↔ ∃ e, j = i + e ∧ q_get lv e = some v
  | [], i, j, v => by simp [q_pr, q_get]
  | none :: r, i, j, v => by
    rw [show q_pr i (none :: r) = q_pr (i + 1) r from rfl, q_pr_m r]
    constructor
    · rintro ⟨e, h1, h2⟩; exact ⟨e + 1, by omega, h2⟩
    · rintro ⟨e, h1, h2⟩
      cases e with
      | zero => cases h2
      | succ e => exact ⟨e, by omega, h2⟩
  | some w :: r, i, j, v => by
    rw [show q_pr i (some w :: r) = (i, w) :: q_pr (i + 1) r from rfl, List.mem_cons, q_pr_m r]
    constructor
    · rintro (h | ⟨e, h1, h2⟩)
      · cases h; exact ⟨0, rfl, rfl⟩
      · exact ⟨e + 1, by omega, h2⟩
    · rintro ⟨e, h1, h2⟩
      cases e with
      | zero => left; simp only [q_get] at h2; cases h2; simp at h1; rw [h1]
      | succ e => right; exact ⟨e, by omega, h2⟩
def q_lv (ls : Array Slot) (nL : Nat) (lv : q_L) : Prop := lv_has ls nL (q_pr 0 lv)
theorem q_lv.at {ls : Array Slot} {nL : Nat} {lv : q_L} (h : q_lv ls nL lv) {i : Nat} {v : Value} (hv : q_get lv i = some v) : ls[i]? = some (.val v) := h.2.2 (i, v) ((q_pr_m lv 0 i v).mpr ⟨i, by omega, hv⟩)
theorem q_n2_s {o : Option Value} {v : Value} (h : q_n2 o = some v) : o = some v ∧ ¬ v.category = 2 := by
  cases o with
  | none => cases h
  | some w => cases w <;> first | (cases h; done) | (cases h; exact ⟨rfl, by simp [Value.category]⟩)
theorem q_p1_g : ∀ (lv : q_L) (i : Nat) (v : Value) (j : Nat) (w : Value), q_get (q_p1 lv i v) j = some w → (j = i ∧ w = v) ∨ (j ≠ i ∧ q_get lv j = some w ∧ ¬ (j + 1 = i ∧ w.category = 2))
  | [], i, v, j, w, h => by simp [q_p1, q_get] at h
  | o :: r, 0, v, 0, w, h => by simp only [q_p1, q_get] at h; cases h; exact Or.inl ⟨rfl, rfl⟩
  | o :: r, 0, v, j + 1, w, h => by simp only [q_p1, q_get] at h; exact Or.inr ⟨by omega, h, by omega⟩
  | o :: r, 1, v, 0, w, h => by
    simp only [q_p1, q_get] at h
    have := q_n2_s h
    exact Or.inr ⟨by omega, this.1, fun q => this.2 q.2⟩
  | o :: r, 1, v, j + 1, w, h => by
    simp only [q_p1, q_get] at h
    rcases q_p1_g r 0 v j w h with ⟨h1, h2⟩ | ⟨h1, h2, h3⟩
    · exact Or.inl ⟨by omega, h2⟩
    · exact Or.inr ⟨by omega, h2, by omega⟩
  | o :: r, i + 2, v, 0, w, h => by simp only [q_p1, q_get] at h; exact Or.inr ⟨by omega, h, by omega⟩
  | o :: r, i + 2, v, j + 1, w, h => by
    simp only [q_p1, q_get] at h
    rcases q_p1_g r (i + 1) v j w h with ⟨h1, h2⟩ | ⟨h1, h2, h3⟩
    · exact Or.inl ⟨by omega, h2⟩
    · exact Or.inr ⟨by omega, h2, fun q => h3 ⟨by omega, q.2⟩⟩
theorem q_p2_g : ∀ (lv : q_L) (i : Nat) (v : Value) (j : Nat) (w : Value), q_get (q_p2 lv i v) j = some w → (j = i ∧ w = v) ∨ (j ≠ i ∧ j ≠ i + 1 ∧ q_get lv j = some w ∧ ¬ (j + 1 = i ∧ w.category = 2))
  | [], i, v, j, w, h => by simp [q_p2, q_get] at h
  | [o], 0, v, 0, w, h => by simp only [q_p2, q_get] at h; cases h; exact Or.inl ⟨rfl, rfl⟩
  | [o], 0, v, j + 1, w, h => by simp [q_p2, q_get] at h
  | o :: o2 :: r, 0, v, 0, w, h => by simp only [q_p2, q_get] at h; cases h; exact Or.inl ⟨rfl, rfl⟩
  | o :: o2 :: r, 0, v, 1, w, h => by simp [q_p2, q_get] at h
  | o :: o2 :: r, 0, v, j + 2, w, h => by simp only [q_p2, q_get] at h; exact Or.inr ⟨by omega, by omega, h, by omega⟩
  | o :: r, 1, v, 0, w, h => by
    rw [show q_p2 (o :: r) 1 v = q_n2 o :: q_p2 r 0 v by cases r <;> rfl] at h
    simp only [q_get] at h
    have := q_n2_s h
    exact Or.inr ⟨by omega, by omega, this.1, fun q => this.2 q.2⟩
  | o :: r, 1, v, j + 1, w, h => by
    rw [show q_p2 (o :: r) 1 v = q_n2 o :: q_p2 r 0 v by cases r <;> rfl] at h
    simp only [q_get] at h
    rcases q_p2_g r 0 v j w h with ⟨h1, h2⟩ | ⟨h1, h1', h2, h3⟩
    · exact Or.inl ⟨by omega, h2⟩
    · exact Or.inr ⟨by omega, by omega, h2, by omega⟩
  | o :: r, i + 2, v, 0, w, h => by
    rw [show q_p2 (o :: r) (i + 2) v = o :: q_p2 r (i + 1) v by cases r <;> rfl] at h
    simp only [q_get] at h
    exact Or.inr ⟨by omega, by omega, h, by omega⟩
  | o :: r, i + 2, v, j + 1, w, h => by
    rw [show q_p2 (o :: r) (i + 2) v = o :: q_p2 r (i + 1) v by cases r <;> rfl] at h
    simp only [q_get] at h
    rcases q_p2_g r (i + 1) v j w h with ⟨h1, h2⟩ | ⟨h1, h1', h2, h3⟩
    · exact Or.inl ⟨by omega, h2⟩
    · exact Or.inr ⟨by omega, by omega, h2, fun q => h3 ⟨by omega, q.2⟩⟩
theorem q_lv.st1 {ls : Array Slot} {nL i : Nat} {lv : q_L} {v : Value} (h : lv_has ls nL ((i, v) :: (q_pr 0 lv).filter (fun q => !(q.1 == i) && !(q.1 + 1 == i && q.2.category == 2)))) : q_lv ls nL (q_p1 lv i v) := by
  refine ⟨h.1, h.2.1, fun q hq => ?_⟩
  obtain ⟨e, h1, h2⟩ := (q_pr_m _ 0 q.1 q.2).mp hq
  rw [Nat.zero_add] at h1
  rcases q_p1_g lv i v e q.2 h2 with ⟨g1, g2⟩ | ⟨g1, g2, g3⟩
  · exact h.2.2 q (by rw [show q = (i, v) by rw [← g2, ← g1, ← h1]]; exact List.mem_cons_self)
  · refine h.2.2 q (List.mem_cons_of_mem _ (List.mem_filter.mpr ⟨(q_pr_m lv 0 q.1 q.2).mpr ⟨e, by omega, g2⟩, ?_⟩))
    rw [h1]
    simp only [Bool.and_eq_true, Bool.not_eq_true', beq_eq_false_iff_ne, ne_eq, Bool.and_eq_false_iff]
    refine ⟨g1, ?_⟩
    by_cases g4 : e + 1 = i
    · exact Or.inr (fun q => g3 ⟨g4, q⟩)
    · exact Or.inl g4
theorem q_lv.st2 {ls : Array Slot} {nL i : Nat} {lv : q_L} {v : Value} (h : lv_has ls nL ((i, v) :: (q_pr 0 lv).filter (fun q => !(q.1 == i) && (!(q.1 == i + 1) && !(q.1 + 1 == i && q.2.category == 2))))) : q_lv ls nL (q_p2 lv i v) := by
  refine ⟨h.1, h.2.1, fun q hq => ?_⟩
  obtain ⟨e, h1, h2⟩ := (q_pr_m _ 0 q.1 q.2).mp hq
  rw [Nat.zero_add] at h1
  rcases q_p2_g lv i v e q.2 h2 with ⟨g1, g2⟩ | ⟨g1, g1', g2, g3⟩
  · exact h.2.2 q (by rw [show q = (i, v) by rw [← g2, ← g1, ← h1]]; exact List.mem_cons_self)
  · refine h.2.2 q (List.mem_cons_of_mem _ (List.mem_filter.mpr ⟨(q_pr_m lv 0 q.1 q.2).mpr ⟨e, by omega, g2⟩, ?_⟩))
    rw [h1]
    simp only [Bool.and_eq_true, Bool.not_eq_true', beq_eq_false_iff_ne, ne_eq, Bool.and_eq_false_iff]
    refine ⟨g1, g1', ?_⟩
    by_cases g4 : e + 1 = i
    · exact Or.inr (fun q => g3 ⟨g4, q⟩)
    · exact Or.inl g4
def q_ar : List Value → q_L
  | [] => []
  | .long x :: r => some (.long x) :: none :: q_ar r
  | .double x :: r => some (.double x) :: none :: q_ar r
  | v :: r => some v :: q_ar r
def q_pad : Nat → q_L → q_L
  | 0, _ => []
  | n + 1, [] => none :: q_pad n []
  | n + 1, o :: r => o :: q_pad n r
theorem q_pad_g : ∀ (n : Nat) (lv : q_L) (j : Nat) (v : Value), q_get (q_pad n lv) j = some v → q_get lv j = some v
  | 0, lv, j, v, h => by simp [q_pad, q_get] at h
  | n + 1, [], 0, v, h => by simp [q_pad, q_get] at h
  | n + 1, [], j + 1, v, h => by
    simp only [q_pad, q_get] at h
    have := q_pad_g n [] j v h
    simp [q_get] at this
  | n + 1, o :: r, 0, v, h => by simpa [q_pad, q_get] using h
  | n + 1, o :: r, j + 1, v, h => by
    simp only [q_pad, q_get] at h ⊢
    exact q_pad_g n r j v h
theorem q_ar_a : ∀ (vs : List Value) (i j : Nat) (v : Value), q_get (q_ar vs) j = some v → (i + j, v) ∈ lv_args i vs
  | [], i, j, v, h => by simp [q_ar, q_get] at h
  | w :: r, i, j, v, h => by
    have two : ∀ x : Value, x.category = 2 → q_get (some x :: none :: q_ar r) j = some v → (i + j, v) ∈ lv_args i (x :: r) := by
      intro x hx hj
      rw [show lv_args i (x :: r) = (i, x) :: lv_args (i + 2) r by simp [lv_args, hx]]
      match j, hj with
      | 0, hj => simp only [q_get] at hj; cases hj; exact List.mem_cons_self
      | 1, hj => simp [q_get] at hj
      | j + 2, hj =>
        simp only [q_get] at hj
        have := q_ar_a r (i + 2) j v hj
        rw [show i + (j + 2) = i + 2 + j by omega]
        exact List.mem_cons_of_mem _ this
    have one : ∀ x : Value, ¬ x.category = 2 → q_get (some x :: q_ar r) j = some v → (i + j, v) ∈ lv_args i (x :: r) := by
      intro x hx hj
      rw [show lv_args i (x :: r) = (i, x) :: lv_args (i + 1) r by simp [lv_args, hx]]
      match j, hj with
      | 0, hj => simp only [q_get] at hj; cases hj; exact List.mem_cons_self
      | j + 1, hj =>
        simp only [q_get] at hj
        have := q_ar_a r (i + 1) j v hj
        rw [show i + (j + 1) = i + 1 + j by omega]
        exact List.mem_cons_of_mem _ this
    cases w <;> first | exact two _ rfl h | exact one _ (by simp [Value.category]) h
end
section
/-! what a method's walk stands on, and what an instruction asks -/
def q_A (G : q_G) : Nat → Prop := fun q => G.2.2 ≤ q
def q_rm (d mc ms : Nat) : Room := { frames := d, cells := mc, slots := ms, locals := 64 * d }
def q_ws (M : q_MT) : List Cond := Cond.code (q_y M) (q_b M) (q_ln M) (q_r M) :: q_tbl
def q_NW (U : State) : Prop := (∀ w ∈ q_nst, va_Nw w U) ∧ va_AO "FontOutlines$Part" U
def q_Kx (G : q_G) (U : State) : Prop := va_K G.1 q_cl (q_tys G) U ∧ q_NW U ∧ G.2.2 ≤ U.heap.size
/-- the method's end: it returns v, the cells are h -/
def q_Qc (G : q_G) (Q : q_P) : Array Value → State → Outcome → State → Prop := fun _ st oc t => ∃ (v : Option Value) (h : q_H) (n : Nat), oc = .returned v ∧ q_rel G h n t.heap ∧ Q v h n ∧ va_F (q_A G) st t
def q_Call (G : q_G) (l : Launch) (M : q_MT) (d mc ms : Nat) (As : List Value) (h : q_H) (n : Nat) (Q : q_P) : Prop :=
  Met l (q_y M) (q_ws M) (q_rm d mc ms) (va_Pc As (fun U => q_rel G h n U.heap ∧ q_Kx G U)) (q_Qc G Q) mc ms (q_A G)
def q_Cx (G : q_G) (l : Launch) (M : q_MT) (p : Program) (s : State) (m : MethodId) (args : Array Value) (meth : Method) (c : Code) : Prop :=
  p.tables.exec = Jvm.exec ∧ c.code = q_b M ∧ meth.sig.returnType = q_r M ∧ c.maxLocals = q_ln M ∧ meth.locks = false ∧ s.vm.findClass (q_y M).cls = some m.cls ∧ (∀ w ∈ q_ws M, w.before args s = true) ∧ q_Kx G s ∧ meth.name = (q_y M).name ∧ q_ow[M.1]? = some (q_y M).cls
def q_Z (G : q_G) (l : Launch) (M : q_MT) (d mc ms : Nat) (Q : q_P) (pc : Nat) : q_C := fun lv st h n k sl =>
  ∀ (p : Program) (e : Env) (s : State) (m : MethodId) (args : Array Value) (below : List Frame) (meth : Method) (c : Code) (H : Heap) (locs : List Loc) (ls : Array Slot), q_Cx G l M p s m args meth c → q_rel G h n H → va_S (q_A G) s.heap H locs → q_lv ls (q_ln M) lv →
    W p l e (q_rm d mc ms) s m args below meth c H locs k sl (MQ below (q_Qc G Q) args s mc ms (q_A G)) (F0 m pc ls st)
-- the stack
def q_i (st : List Value) (f : Int32 → List Value → Prop) : Prop := match st with
  | .int x :: r => f x r
  | _ => False
def q_j (st : List Value) (f : Int64 → List Value → Prop) : Prop := match st with
  | .long x :: r => f x r
  | _ => False
def q_a (st : List Value) (f : Nat → List Value → Prop) : Prop := match st with
  | .ref x :: r => f x r
  | _ => False
def q_v (st : List Value) (f : Value → List Value → Prop) : Prop := match st with
  | x :: r => f x r
  | _ => False
/-- values popped: the last argument first -/
def q_ags : Nat → List Value → List Value → (List Value → List Value → Prop) → Prop
  | 0, as, st, f => f as st
  | n + 1, as, v :: r, f => q_ags n (v :: as) r f
  | _ + 1, _, [], _ => False
def q_cat : List Value → Nat
  | [] => 0
  | .long _ :: r => 2 + q_cat r
  | .double _ :: r => 2 + q_cat r
  | _ :: r => 1 + q_cat r
-- cells
def q_nth : List Value → Nat → (Value → Prop) → Prop
  | [], _, _ => False
  | v :: _, 0, f => f v
  | _ :: r, k + 1, f => q_nth r k f
def q_ob (h : q_H) (a ci : Nat) (f : List Value → Prop) : Prop := match h a with
  | some (.inr (c, fs)) => c = ci ∧ f fs
  | _ => False
def q_ry (h : q_H) (a : Nat) (f : Nat → vp_A → Prop) : Prop := match h a with
  | some (.inl (t, x)) => f t x
  | _ => False
/-- an array of ints, bytes or booleans -/
def q_ri (h : q_H) (a kd : Nat) (f : Nat → (Nat → Int32) → Prop) : Prop := match h a with
  | some (.inl (t, m, .inl g)) => t = kd ∧ f m g
  | _ => False
def q_rb (h : q_H) (a : Nat) (f : Nat → Nat → (Nat → Int32) → Prop) : Prop := match h a with
  | some (.inl (1, m, .inl g)) => f 1 m g
  | some (.inl (3, m, .inl g)) => f 3 m g
  | _ => False
def q_rl (h : q_H) (a : Nat) (f : Nat → (Nat → Int64) → Prop) : Prop := match h a with
  | some (.inl (2, m, .inr (.inl g))) => f m g
  | _ => False
def q_rq (h : q_H) (a : Nat) (f : Nat → (Nat → Option Nat) → Prop) : Prop := match h a with
  | some (.inl (4, m, .inr (.inr (.inr (.inr g))))) => f m g
  | _ => False
def q_fit (t : FieldType) (v : Value) : Prop := narrow t v = v ∧ fits t v = true
def q_li (lv : q_L) (i : Nat) (f : Int32 → Prop) : Prop := match q_get lv i with
  | some (.int x) => f x
  | _ => False
def q_lj (lv : q_L) (i : Nat) (f : Int64 → Prop) : Prop := match q_get lv i with
  | some (.long x) => f x
  | _ => False
def q_la (lv : q_L) (i : Nat) (f : Nat → Prop) : Prop := match q_get lv i with
  | some (.ref x) => f x
  | _ => False
def q_op {α : Type} (o : Option α) (f : α → Prop) : Prop := match o with
  | some x => f x
  | none => False
def q_br (c A B : Prop) : Prop := (c → A) ∧ (¬ c → B)
/-- a call: with d frames left for it -/
def q_dn (d : Nat) (f : Nat → Prop) : Prop := match d with
  | 0 => False
  | d + 1 => f d
/-- the first cells of an array of a kind -/
def q_new (kd : Nat) (m : Nat) : q_E := .inl (kd, m, if kd = 2 then .inr (.inl (fun _ => 0)) else if kd = 4 then .inr (.inr (.inr (.inr (fun _ => none)))) else .inl (fun _ => 0))
def q_atk : ArrayType → Option Nat
  | .int => some 0
  | .byte => some 1
  | .long => some 2
  | .boolean => some 3
  | _ => none
def q_dv : FieldType → Value
  | .int => .int 0
  | .boolean => .int 0
  | .byte => .int 0
  | .char => .int 0
  | .short => .int 0
  | .long => .long 0
  | t => defaultValue t
def q_zero (ci : Nat) : Nat → List Value
  | 0 => []
  | k + 1 => q_zero ci k ++ [q_dv (q_ty ci k)]
/-- a call, whatever room it takes: c goes on with the result on the stack -/
def q_cal (G : q_G) (l : Launch) (M : q_MT) (d mc ms k sl : Nat) (As : List Value) (h : q_H) (n : Nat) (r : List Value) (c : List Value → q_H → Nat → Nat → Nat → Prop) : Prop :=
  ∃ mc' ms' : Nat, k + mc' ≤ mc ∧ sl + ms' ≤ ms ∧ q_Call G l M d mc' ms' As h n fun v h n => c (v.toList ++ r) h n (k + mc') (sl + ms')
def q_jp (pc : Nat) (off : Int) (f : Nat → Prop) : Prop := 0 ≤ (pc : Int) + off ∧ f ((pc : Int) + off).toNat
def q_sl (pc : Nat) (x : Int32) (f : Nat → Prop) : Int → List Int → Prop
  | _, [] => True
  | j, off :: r => (x.toInt = j → q_jp pc off f) ∧ q_sl pc x f (j + 1) r
def q_ins (G : q_G) (l : Launch) (M : q_MT) (d mc ms : Nat) (Q : q_P) (K : Nat → q_C) (i : Instr) (pc t : Nat) (nx : q_C) : q_C := fun lv st h n k sl =>
  match i with
  | .iconst v => nx lv (.int (Int32.ofInt v) :: st) h n k sl
  | .bipush v => nx lv (.int (Int8.ofInt v).toInt32 :: st) h n k sl
  | .sipush v => nx lv (.int (Int16.ofInt v).toInt32 :: st) h n k sl
  | .lconst v => nx lv (.long (Int64.ofNat v.val) :: st) h n k sl
  | .ldc j => q_op (q_ki M.1 j) fun v => nx lv (.int v :: st) h n k sl
  | .ldc_w j => q_op (q_ki M.1 j) fun v => nx lv (.int v :: st) h n k sl
  | .ldc2_w j => q_op (q_kl M.1 j) fun v => nx lv (.long v :: st) h n k sl
  | .iload j => q_li lv j fun x => nx lv (.int x :: st) h n k sl
  | .iload_n j => q_li lv j.val fun x => nx lv (.int x :: st) h n k sl
  | .lload j => q_lj lv j fun x => nx lv (.long x :: st) h n k sl
  | .lload_n j => q_lj lv j.val fun x => nx lv (.long x :: st) h n k sl
  | .aload j => q_la lv j fun x => nx lv (.ref x :: st) h n k sl
  | .aload_n j => q_la lv j.val fun x => nx lv (.ref x :: st) h n k sl
  | .istore j => q_i st fun x r => nx (q_p1 lv j (.int x)) r h n k sl
  | .istore_n j => q_i st fun x r => nx (q_p1 lv j.val (.int x)) r h n k sl
  | .lstore j => q_j st fun x r => nx (q_p2 lv j (.long x)) r h n k sl
  | .lstore_n j => q_j st fun x r => nx (q_p2 lv j.val (.long x)) r h n k sl
  | .astore j => q_a st fun x r => nx (q_p1 lv j (.ref x)) r h n k sl
  | .astore_n j => q_a st fun x r => nx (q_p1 lv j.val (.ref x)) r h n k sl
  | .iinc j v => q_li lv j fun x => nx (q_p1 lv j (.int (x + Int32.ofInt v))) st h n k sl
  | .iadd => q_i st fun y r => q_i r fun x r => nx lv (.int (x + y) :: r) h n k sl
  | .isub => q_i st fun y r => q_i r fun x r => nx lv (.int (x - y) :: r) h n k sl
  | .imul => q_i st fun y r => q_i r fun x r => nx lv (.int (x * y) :: r) h n k sl
  | .iand => q_i st fun y r => q_i r fun x r => nx lv (.int (x &&& y) :: r) h n k sl
  | .ior => q_i st fun y r => q_i r fun x r => nx lv (.int (x ||| y) :: r) h n k sl
  | .idiv => q_i st fun y r => q_i r fun x r => ¬ y = 0 ∧ nx lv (.int (x / y) :: r) h n k sl
  | .irem => q_i st fun y r => q_i r fun x r => ¬ y = 0 ∧ nx lv (.int (x - x / y * y) :: r) h n k sl
  | .ineg => q_i st fun x r => nx lv (.int (-x) :: r) h n k sl
  | .ishl => q_i st fun y r => q_i r fun x r => nx lv (.int (x <<< (y &&& 31)) :: r) h n k sl
  | .ishr => q_i st fun y r => q_i r fun x r => nx lv (.int (x >>> (y &&& 31)) :: r) h n k sl
  | .iushr => q_i st fun y r => q_i r fun x r => nx lv (.int (x.toUInt32 >>> (y.toUInt32 &&& Int32.toUInt32 31)).toInt32 :: r) h n k sl
  | .ladd => q_j st fun y r => q_j r fun x r => nx lv (.long (x + y) :: r) h n k sl
  | .lsub => q_j st fun y r => q_j r fun x r => nx lv (.long (x - y) :: r) h n k sl
  | .lmul => q_j st fun y r => q_j r fun x r => nx lv (.long (x * y) :: r) h n k sl
  | .land => q_j st fun y r => q_j r fun x r => nx lv (.long (x &&& y) :: r) h n k sl
  | .lor => q_j st fun y r => q_j r fun x r => nx lv (.long (x ||| y) :: r) h n k sl
  | .ldiv => q_j st fun y r => q_j r fun x r => ¬ y = 0 ∧ nx lv (.long (x / y) :: r) h n k sl
  | .lrem => q_j st fun y r => q_j r fun x r => ¬ y = 0 ∧ nx lv (.long (x - x / y * y) :: r) h n k sl
  | .lneg => q_j st fun x r => nx lv (.long (-x) :: r) h n k sl
  | .lshl => q_i st fun y r => q_j r fun x r => nx lv (.long (x <<< (y.toInt64 &&& 63)) :: r) h n k sl
  | .lshr => q_i st fun y r => q_j r fun x r => nx lv (.long (x >>> (y.toInt64 &&& 63)) :: r) h n k sl
  | .lcmp => q_j st fun y r => q_j r fun x r => nx lv (.int (lg_cmp x y) :: r) h n k sl
  | .i2l => q_i st fun x r => nx lv (.long x.toInt64 :: r) h n k sl
  | .l2i => q_j st fun x r => nx lv (.int x.toInt32 :: r) h n k sl
  | .i2b => q_i st fun x r => nx lv (.int x.toInt8.toInt32 :: r) h n k sl
  | .i2s => q_i st fun x r => nx lv (.int x.toInt16.toInt32 :: r) h n k sl
  | .dup => q_v st fun v r => v.category = 1 ∧ nx lv (v :: v :: r) h n k sl
  | .dup2 => q_v st fun v r => q_v r fun w r => v.category = 1 ∧ w.category = 1 ∧ nx lv (v :: w :: v :: w :: r) h n k sl
  | .pop => q_v st fun v r => v.category = 1 ∧ nx lv r h n k sl
  | .pop2 => q_j st fun _ r => nx lv r h n k sl
  | .goto _ => K t lv st h n k sl
  | .ifCond .eq _ => q_i st fun x r => q_br (x = 0) (K t lv r h n k sl) (nx lv r h n k sl)
  | .ifCond .ne _ => q_i st fun x r => q_br (x = 0) (nx lv r h n k sl) (K t lv r h n k sl)
  | .ifCond .lt _ => q_i st fun x r => q_br (x < 0) (K t lv r h n k sl) (nx lv r h n k sl)
  | .ifCond .ge _ => q_i st fun x r => q_br (0 ≤ x) (K t lv r h n k sl) (nx lv r h n k sl)
  | .ifCond .gt _ => q_i st fun x r => q_br (0 < x) (K t lv r h n k sl) (nx lv r h n k sl)
  | .ifCond .le _ => q_i st fun x r => q_br (x ≤ 0) (K t lv r h n k sl) (nx lv r h n k sl)
  | .if_icmp .eq _ => q_i st fun y r => q_i r fun x r => q_br (x = y) (K t lv r h n k sl) (nx lv r h n k sl)
  | .if_icmp .ne _ => q_i st fun y r => q_i r fun x r => q_br (x = y) (nx lv r h n k sl) (K t lv r h n k sl)
  | .if_icmp .lt _ => q_i st fun y r => q_i r fun x r => q_br (x < y) (K t lv r h n k sl) (nx lv r h n k sl)
  | .if_icmp .ge _ => q_i st fun y r => q_i r fun x r => q_br (y ≤ x) (K t lv r h n k sl) (nx lv r h n k sl)
  | .if_icmp .gt _ => q_i st fun y r => q_i r fun x r => q_br (y < x) (K t lv r h n k sl) (nx lv r h n k sl)
  | .if_icmp .le _ => q_i st fun y r => q_i r fun x r => q_br (x ≤ y) (K t lv r h n k sl) (nx lv r h n k sl)
  | .getfield j => q_op (q_fl M.1 j) fun f => q_a st fun a r => q_ob h a f.1 fun fs => q_nth fs f.2.1 fun v => nx lv (v :: r) h n k sl
  | .putfield j => q_op (q_fl M.1 j) fun f => q_v st fun v r => q_a r fun a r => q_ob h a f.1 fun fs => f.2.1 < fs.length ∧ q_fit (q_ty f.1 f.2.1) v ∧ nx lv r (q_set h a (.inr (f.1, fs.set f.2.1 v))) n k sl
  | .iaload => q_i st fun i r => q_a r fun a r => q_ri h a 0 fun m g => vp_in i m ∧ nx lv (.int (g i.toNatClampNeg) :: r) h n k sl
  | .iastore => q_i st fun x r => q_i r fun i r => q_a r fun a r => q_ri h a 0 fun m g => vp_in i m ∧ nx lv r (q_set h a (.inl (0, m, .inl (upd g i.toNatClampNeg x)))) n k sl
  | .baload => q_i st fun i r => q_a r fun a r => q_rb h a fun _ m g => vp_in i m ∧ nx lv (.int (g i.toNatClampNeg) :: r) h n k sl
  | .bastore => q_i st fun x r => q_i r fun i r => q_a r fun a r => q_rb h a fun t m g => vp_in i m ∧ nx lv r (q_set h a (.inl (t, m, .inl (upd g i.toNatClampNeg (vp_nar (q_kind t) x))))) n k sl
  | .laload => q_i st fun i r => q_a r fun a r => q_rl h a fun m g => vp_in i m ∧ nx lv (.long (g i.toNatClampNeg) :: r) h n k sl
  | .lastore => q_j st fun x r => q_i r fun i r => q_a r fun a r => q_rl h a fun m g => vp_in i m ∧ nx lv r (q_set h a (.inl (2, m, .inr (.inl (vp_updL g i.toNatClampNeg x))))) n k sl
  | .aaload => q_i st fun i r => q_a r fun a r => q_rq h a fun m g => vp_in i m ∧ nx lv (va_rf (g i.toNatClampNeg) :: r) h n k sl
  | .aastore => q_a st fun v r => q_i r fun i r => q_a r fun a r => q_rq h a fun m g => vp_in i m ∧ q_ob h v 5 fun _ => nx lv r (q_set h a (.inl (4, m, .inr (.inr (.inr (.inr (va_up g i.toNatClampNeg (some v)))))))) n k sl
  | .arraylength => q_a st fun a r => q_ry h a fun t x => t < 5 ∧ nx lv (.int (Int32.ofNat x.1) :: r) h n k sl
  | .new j => q_op (q_cn M.1 j) fun ci => q_op (q_cl[ci]?) fun C => k + 1 ≤ mc ∧ sl + C.2.2 ≤ ms ∧ nx lv (.ref n :: st) (q_set h n (.inr (ci, q_zero ci C.2.2))) (n + 1) (k + 1) (sl + C.2.2)
  | .newarray ty => q_op (q_atk ty) fun kd => q_i st fun x r => ¬ x < 0 ∧ x.toNatClampNeg ≤ 1000000 ∧ k + 1 ≤ mc ∧ sl + x.toNatClampNeg ≤ ms ∧ nx lv (.ref n :: r) (q_set h n (q_new kd x.toNatClampNeg)) (n + 1) (k + 1) (sl + x.toNatClampNeg)
  | .invokevirtual j => q_op (q_ml M.1 j) fun y => y.2.2 = 0 ∧ q_ags y.1 [] st fun As r => q_a r fun b r => q_cat r ≤ 8 ∧ q_ob h b y.2.1.1 fun _ => q_dn d fun d' => q_cal G l y.2.1 d' mc ms k sl (.ref b :: As) h n r (nx lv)
  | .invokespecial j => if q_oi M.1 j = true then q_a st fun _ r => q_cat r ≤ 8 ∧ q_dn d fun _ => nx lv r h n k sl
      else q_op (q_ml M.1 j) fun y => y.2.2 = 1 ∧ q_ags y.1 [] st fun As r => q_a r fun b r => q_cat r ≤ 8 ∧ q_dn d fun d' => q_cal G l y.2.1 d' mc ms k sl (.ref b :: As) h n r (nx lv)
  | .anewarray j => q_i st fun x r => q_an M.1 j = true ∧ ¬ x < 0 ∧ x.toNatClampNeg ≤ 1000000 ∧ k + 1 ≤ mc ∧ sl + x.toNatClampNeg ≤ ms ∧ nx lv (.ref n :: r) (q_set h n (q_new 4 x.toNatClampNeg)) (n + 1) (k + 1) (sl + x.toNatClampNeg)
  | .tableswitch df lo hi offs => q_i st fun x r => (x.toInt < lo ∨ hi < x.toInt → q_jp pc df fun t => K t lv r h n k sl) ∧ q_sl pc x (fun t => K t lv r h n k sl) lo offs.toList ∧ (offs.size : Int) = hi - lo + 1
  | .invokestatic j => if q_ac M.1 j = true then
      q_i st fun nn r => q_i r fun dp r => q_a r fun a r => q_i r fun sp r => q_a r fun a0 r => q_cat r ≤ 8 ∧ q_ri h a0 1 fun n0 f => q_ri h a 1 fun n1 g => ¬ sp < 0 ∧ ¬ dp < 0 ∧ ¬ nn < 0 ∧ sp.toNatClampNeg + nn.toNatClampNeg ≤ n0 ∧ dp.toNatClampNeg + nn.toNatClampNeg ≤ n1 ∧ (∀ i, i < nn.toNatClampNeg → fits .byte (.int (f (sp.toNatClampNeg + i))) = true) ∧ q_dn d fun _ => nx lv r (q_set h a (.inl (1, n1, .inl (va_cpy f g sp.toNatClampNeg dp.toNatClampNeg nn.toNatClampNeg)))) n k sl
    else match q_mm M.1 j with
    | some b => q_i st fun y r => q_i r fun x r => q_cat r ≤ 8 ∧ k ≤ mc ∧ sl ≤ ms ∧ q_dn d fun _ => nx lv (.int (if b = true then (if x < y then y else x) else (if y < x then y else x)) :: r) h n k sl
    | none => q_op (q_ml M.1 j) fun y => y.2.2 = 2 ∧ q_ags y.1 [] st fun As r => q_cat r ≤ 8 ∧ q_dn d fun d' => q_cal G l y.2.1 d' mc ms k sl As h n r (nx lv)
  | .ireturn => q_i st fun x r => r = [] ∧ q_op (q_r M) fun ty => narrow ty (.int x) = .int x ∧ k ≤ mc ∧ sl ≤ ms ∧ Q (some (.int x)) h n
  | .lreturn => q_j st fun x r => r = [] ∧ q_r M = some .long ∧ k ≤ mc ∧ sl ≤ ms ∧ Q (some (.long x)) h n
  | .areturn => q_a st fun x r => r = [] ∧ q_op (q_r M) fun ty => ((∃ n, ty = .object n) ∨ ∃ t, ty = .array t) ∧ k ≤ mc ∧ sl ≤ ms ∧ Q (some (.ref x)) h n
  | .return_ => st = [] ∧ q_r M = none ∧ k ≤ mc ∧ sl ≤ ms ∧ Q none h n
  | _ => False
end
section
/-! eliminations; what the link tables say; one row each for what changes cells -/
theorem q_i_s {st : List Value} {f : Int32 → List Value → Prop} (h : q_i st f) : ∃ x r, st = .int x :: r ∧ f x r := by
  unfold q_i at h; split at h
  · exact ⟨_, _, rfl, h⟩
  · exact h.elim
theorem q_j_s {st : List Value} {f : Int64 → List Value → Prop} (h : q_j st f) : ∃ x r, st = .long x :: r ∧ f x r := by
  unfold q_j at h; split at h
  · exact ⟨_, _, rfl, h⟩
  · exact h.elim
theorem q_a_s {st : List Value} {f : Nat → List Value → Prop} (h : q_a st f) : ∃ x r, st = .ref x :: r ∧ f x r := by
  unfold q_a at h; split at h
  · exact ⟨_, _, rfl, h⟩
  · exact h.elim
theorem q_v_s {st : List Value} {f : Value → List Value → Prop} (h : q_v st f) : ∃ x r, st = x :: r ∧ f x r := by
  unfold q_v at h; split at h
  · exact ⟨_, _, rfl, h⟩
  · exact h.elim
theorem q_li_s {lv : q_L} {i : Nat} {f : Int32 → Prop} (h : q_li lv i f) : ∃ x, q_get lv i = some (.int x) ∧ f x := by
  unfold q_li at h; split at h
  · exact ⟨_, by assumption, h⟩
  · exact h.elim
theorem q_lj_s {lv : q_L} {i : Nat} {f : Int64 → Prop} (h : q_lj lv i f) : ∃ x, q_get lv i = some (.long x) ∧ f x := by
  unfold q_lj at h; split at h
  · exact ⟨_, by assumption, h⟩
  · exact h.elim
theorem q_la_s {lv : q_L} {i : Nat} {f : Nat → Prop} (h : q_la lv i f) : ∃ x, q_get lv i = some (.ref x) ∧ f x := by
  unfold q_la at h; split at h
  · exact ⟨_, by assumption, h⟩
  · exact h.elim
theorem q_op_s {α : Type} {o : Option α} {f : α → Prop} (h : q_op o f) : ∃ x, o = some x ∧ f x := by
  unfold q_op at h; split at h
  · exact ⟨_, rfl, h⟩
  · exact h.elim
theorem q_ob_s {h : q_H} {a ci : Nat} {f : List Value → Prop} (hh : q_ob h a ci f) : ∃ fs, h a = some (.inr (ci, fs)) ∧ f fs := by
  unfold q_ob at hh; split at hh
  · obtain ⟨rfl, h2⟩ := hh; exact ⟨_, by assumption, h2⟩
  · exact hh.elim
theorem q_nth_s : ∀ {fs : List Value} {k : Nat} {f : Value → Prop}, q_nth fs k f → ∃ v, fs[k]? = some v ∧ f v
  | [], _, _, h => h.elim
  | v :: _, 0, _, h => ⟨v, rfl, h⟩
  | _ :: r, k + 1, f, h => by
    obtain ⟨v, h1, h2⟩ := q_nth_s (fs := r) (k := k) (f := f) h
    exact ⟨v, by simpa using h1, h2⟩
theorem q_ry_s {h : q_H} {a : Nat} {f : Nat → vp_A → Prop} (hh : q_ry h a f) : ∃ t x, h a = some (.inl (t, x)) ∧ f t x := by
  unfold q_ry at hh; split at hh
  · exact ⟨_, _, by assumption, hh⟩
  · exact hh.elim
theorem q_ri_s {h : q_H} {a kd : Nat} {f : Nat → (Nat → Int32) → Prop} (hh : q_ri h a kd f) : ∃ m g, h a = some (.inl (kd, m, .inl g)) ∧ f m g := by
  unfold q_ri at hh; split at hh
  · obtain ⟨rfl, h2⟩ := hh; exact ⟨_, _, by assumption, h2⟩
  · exact hh.elim
theorem q_rb_s {h : q_H} {a : Nat} {f : Nat → Nat → (Nat → Int32) → Prop} (hh : q_rb h a f) : ∃ t m g, h a = some (.inl (t, m, .inl g)) ∧ (t = 1 ∨ t = 3) ∧ f t m g := by
  unfold q_rb at hh; split at hh
  · exact ⟨_, _, _, by assumption, Or.inl rfl, hh⟩
  · exact ⟨_, _, _, by assumption, Or.inr rfl, hh⟩
  · exact hh.elim
theorem q_rl_s {h : q_H} {a : Nat} {f : Nat → (Nat → Int64) → Prop} (hh : q_rl h a f) : ∃ m g, h a = some (.inl (2, m, .inr (.inl g))) ∧ f m g := by
  unfold q_rl at hh; split at hh
  · exact ⟨_, _, by assumption, hh⟩
  · exact hh.elim
theorem q_rq_s {h : q_H} {a : Nat} {f : Nat → (Nat → Option Nat) → Prop} (hh : q_rq h a f) : ∃ m g, h a = some (.inl (4, m, .inr (.inr (.inr (.inr g))))) ∧ f m g := by
  unfold q_rq at hh; split at hh
  · exact ⟨_, _, by assumption, hh⟩
  · exact hh.elim
theorem q_dn_s {d : Nat} {f : Nat → Prop} (h : q_dn d f) : ∃ d', d = d' + 1 ∧ f d' := by
  unfold q_dn at h; split at h
  · exact h.elim
  · exact ⟨_, rfl, h⟩
theorem q_ags_s : ∀ {n : Nat} {as st : List Value} {f : List Value → List Value → Prop}, q_ags n as st f → ∃ bs r, bs.length = n ∧ st = bs.reverse ++ r ∧ f (bs ++ as) r
  | 0, as, st, f, h => ⟨[], st, rfl, rfl, h⟩
  | n + 1, as, v :: r, f, h => by
    obtain ⟨bs, r', h1, h2, h3⟩ := q_ags_s (n := n) (as := v :: as) (st := r) (f := f) h
    exact ⟨bs ++ [v], r', by simp [h1], by simp [h2], by simpa using h3⟩
  | n + 1, as, [], f, h => h.elim
theorem q_cat_e : ∀ st : List Value, (st.map fun v => v.category).sum = q_cat st
  | [] => rfl
  | v :: r => by
    have ih := q_cat_e r
    rw [List.map_cons, List.sum_cons, ih]
    cases v <;> rfl
-- links
theorem q_find {α : Type} {L : List (Nat × Nat × α)} {w j : Nat} {x : Nat × Nat × α} (h : L.find? (fun x => x.1 == w && x.2.1 == j) = some x) : x ∈ L ∧ x.1 = w ∧ x.2.1 = j := by
  have h1 := List.find?_some h
  have h2 := List.mem_of_find?_eq_some h
  simp only [Bool.and_eq_true, beq_iff_eq] at h1
  exact ⟨h2, h1.1, h1.2⟩
theorem q_fl_ok {w j ci k : Nat} {b : Bool} {o : String} (ho : q_ow[w]? = some o) (h : q_fl w j = some (ci, k, b)) : ∃ C T N, q_cl[ci]? = some (C, T, N) ∧ k < N ∧ (b = false → Cond.fieldLink o j C (T k).2.1 (T k).2.2.1 ∈ q_tbl) ∧ (b = true → Cond.fieldLinkNest o j C (T k).2.1 (T k).2.2.1 "FontOutlines" ∈ q_nst) := by
  unfold q_fl at h
  cases hf : q_flL.find? (fun x => x.1 == w && x.2.1 == j) with
  | none => rw [hf] at h; cases h
  | some x =>
    rw [hf] at h
    obtain ⟨hm, e1, e2⟩ := q_find hf
    have hk := List.all_eq_true.mp q_flL_ok x hm
    obtain ⟨x1, x2, x3, x4, x5, x6⟩ := x
    simp only [Option.map_some, Option.some.injEq, Prod.mk.injEq] at h
    obtain ⟨h1, h2, h3⟩ := h
    dsimp only at e1 e2
    subst e1; subst e2; subst h1; subst h2; subst h3
    unfold q_okF at hk
    dsimp only at hk
    rw [ho] at hk
    cases hc : q_cl[x3]? with
    | none => rw [hc] at hk; cases hk
    | some c =>
      obtain ⟨C, T, N⟩ := c
      rw [hc] at hk
      simp only [Bool.and_eq_true, decide_eq_true_eq] at hk
      refine ⟨C, T, N, rfl, hk.1, fun hb => ?_, fun hb => ?_⟩
      · subst hb; exact q_has_in hk.2
      · subst hb; exact q_hasN_in rfl hk.2
theorem q_ki_ok {w j : Nat} {v : Int32} {o : String} (ho : q_ow[w]? = some o) (h : q_ki w j = some v) : Cond.constant o j v ∈ q_tbl := by
  unfold q_ki at h
  cases hf : q_kiL.find? (fun x => x.1 == w && x.2.1 == j) with
  | none => rw [hf] at h; cases h
  | some x =>
    rw [hf] at h
    obtain ⟨hm, e1, e2⟩ := q_find hf
    have hk := List.all_eq_true.mp q_kiL_ok x hm
    obtain ⟨x1, x2, x3, x4⟩ := x
    simp only [Option.map_some, Option.some.injEq] at h
    dsimp only at e1 e2
    subst e1; subst e2; subst h
    dsimp only at hk
    rw [ho] at hk
    exact q_has_in hk
theorem q_kl_ok {w j : Nat} {v : Int64} {o : String} (ho : q_ow[w]? = some o) (h : q_kl w j = some v) : Cond.constantLong o j v ∈ q_tbl := by
  unfold q_kl at h
  cases hf : q_klL.find? (fun x => x.1 == w && x.2.1 == j) with
  | none => rw [hf] at h; cases h
  | some x =>
    rw [hf] at h
    obtain ⟨hm, e1, e2⟩ := q_find hf
    have hk := List.all_eq_true.mp q_klL_ok x hm
    obtain ⟨x1, x2, x3, x4⟩ := x
    simp only [Option.map_some, Option.some.injEq] at h
    dsimp only at e1 e2
    subst e1; subst e2; subst h
    dsimp only at hk
    rw [ho] at hk
    exact q_has_in hk
theorem q_cn_ok {w j ci : Nat} {o : String} {C : String} {T : u_T} {N : Nat} (ho : q_ow[w]? = some o) (h : q_cn w j = some ci) (hc : q_cl[ci]? = some (C, T, N)) : Cond.classLink o j C ∈ q_tbl ∧ Cond.instantiable C N ∈ q_tbl ∧ Cond.initialized C ∈ q_tbl := by
  unfold q_cn at h
  cases hf : q_cnL.find? (fun x => x.1 == w && x.2.1 == j) with
  | none => rw [hf] at h; cases h
  | some x =>
    rw [hf] at h
    obtain ⟨hm, e1, e2⟩ := q_find hf
    have hk := List.all_eq_true.mp q_cnL_ok x hm
    obtain ⟨x1, x2, x3, x4, x5, x6⟩ := x
    simp only [Option.map_some, Option.some.injEq] at h
    dsimp only at e1 e2
    subst e1; subst e2; subst h
    unfold q_okN at hk
    dsimp only at hk
    rw [ho, hc] at hk
    simp only [Bool.and_eq_true] at hk
    exact ⟨q_has_in hk.1.1, q_has_in hk.1.2, q_has_in hk.2⟩
theorem q_oi_ok {w j : Nat} {o : String} (ho : q_ow[w]? = some o) (h : q_oi w j = true) : Cond.methodLink o j Lib.objectInit ∈ q_tbl := by
  unfold q_oi at h
  obtain ⟨x, hm, hx⟩ := List.any_eq_true.mp h
  have hk := List.all_eq_true.mp q_oiL_ok x hm
  obtain ⟨x1, x2, x3⟩ := x
  simp only [Bool.and_eq_true, beq_iff_eq] at hx
  obtain ⟨rfl, rfl⟩ := hx
  dsimp only at hk
  rw [ho] at hk
  exact q_has_in hk
theorem q_mm_ok {w j : Nat} {b : Bool} {o : String} (ho : q_ow[w]? = some o) (h : q_mm w j = some b) : Cond.methodLink o j (if b = true then Lib.Math.max.name else Lib.Math.min.name) ∈ q_tbl := by
  unfold q_mm at h
  cases hf : q_mmL.find? (fun x => x.1 == w && x.2.1 == j) with
  | none => rw [hf] at h; cases h
  | some x =>
    rw [hf] at h
    obtain ⟨hm, e1, e2⟩ := q_find hf
    have hk := List.all_eq_true.mp q_mmL_ok x hm
    obtain ⟨x1, x2, x3, x4⟩ := x
    simp only [Option.map_some, Option.some.injEq] at h
    dsimp only at e1 e2
    subst e1; subst e2; subst h
    dsimp only at hk
    rw [ho] at hk
    exact q_has_in hk
def q_kw (o : String) (j : Nat) (y : MethodName) : Nat → Prop
  | 0 => Cond.methodLink o j y ∈ q_tbl ∧ Cond.instanceMethod y ∈ q_tbl ∧ Cond.selects y.cls y y ∈ q_tbl ∧ Cond.initialized y.cls ∈ q_tbl
  | 1 => Cond.methodLink o j y ∈ q_tbl ∧ Cond.instanceMethod y ∈ q_tbl ∧ Cond.initialized y.cls ∈ q_tbl ∧ y.name = "<init>"
  | _ => Cond.methodLink o j y ∈ q_tbl ∧ Cond.static y ∈ q_tbl ∧ Cond.initialized y.cls ∈ q_tbl
theorem q_ml_ok {w j na kd : Nat} {M : q_MT} {o : String} (ho : q_ow[w]? = some o) (h : q_ml w j = some (na, M, kd)) : q_okM M = true ∧ (parseMethodDescriptor (q_y M).desc).map (fun d => d.parameters.length) = some na ∧ q_kw o j (q_y M) kd ∧ (kd = 1 → q_r M = none) := by
  unfold q_ml at h
  cases hf : q_mlL.find? (fun x => x.1 == w && x.2.1 == j) with
  | none => rw [hf] at h; cases h
  | some x =>
    rw [hf] at h
    obtain ⟨hm, e1, e2⟩ := q_find hf
    have hk := List.all_eq_true.mp q_mlL_ok x hm
    obtain ⟨x1, x2, x3, x4, x5, x6⟩ := x
    simp only [Option.map_some, Option.some.injEq, Prod.mk.injEq] at h
    obtain ⟨h1, h2, h3⟩ := h
    dsimp only at e1 e2
    subst e1; subst e2; subst h1; subst h2; subst h3
    unfold q_okL at hk
    dsimp only at hk
    rw [ho] at hk
    simp only [Bool.and_eq_true, decide_eq_true_eq] at hk
    obtain ⟨⟨hk1, hk2⟩, hk3⟩ := hk
    refine ⟨hk1, hk2, ?_⟩
    match x5, hk3 with
    | 0, hk3 =>
      have := q_hasL_in _ _ hk3
      exact ⟨⟨this _ (by simp), this _ (by simp), this _ (by simp), this _ (by simp)⟩, fun h => by cases h⟩
    | 1, hk3 =>
      simp only [Bool.and_eq_true, decide_eq_true_eq] at hk3
      have := q_hasL_in _ _ hk3.1.1
      exact ⟨⟨this _ (by simp), this _ (by simp), this _ (by simp), hk3.1.2⟩, fun _ => hk3.2⟩
    | k + 2, hk3 =>
      have := q_hasL_in _ _ hk3
      exact ⟨⟨this _ (by simp), this _ (by simp), this _ (by simp)⟩, fun h => by cases h⟩
theorem q_okM_s {M : q_MT} (h : q_okM M = true) : Cond.code (q_y M) (q_b M) (q_ln M) (q_r M) ∈ q_tbl ∧ q_ow[M.1]? = some (q_y M).cls ∧ plainName (q_y M).cls = true ∧ q_ln M + 19 ≤ 64 ∧ (q_y M).cls ≠ "java/lang/invoke/MethodHandle" ∧ (q_y M).cls ≠ "java/lang/invoke/VarHandle" := by
  unfold q_okM at h
  simp only [Bool.and_eq_true, decide_eq_true_eq] at h
  exact ⟨q_isC_in h.1.1.1.1, h.1.1.1.2, h.1.1.2, h.1.2, h.2.1, h.2.2⟩
theorem q_tbl_good : ∀ w ∈ q_tbl, (w.onTables && w.keeps) = true ∨ ∃ ty, w = .arrayClass ty := fun w h => good_of_word (List.mem_filter.mp h).2
theorem q_good {M M' : q_MT} (h : Cond.code (q_y M') (q_b M') (q_ln M') (q_r M') ∈ q_tbl) : GoodIn (q_ws M) (q_ws M') := by
  intro w hw
  have hq : w ∈ q_tbl := by
    rcases List.mem_cons.mp hw with rfl | hw
    · exact h
    · exact hw
  exact ⟨List.mem_cons_of_mem _ hq, q_tbl_good w hq⟩
theorem q_NW.same {u U : State} (h : u.vm = U.vm) (hN : q_NW u) : q_NW U := by
  refine ⟨fun w hw => ?_, va_AO.moved (by rw [h]; exact Vm.Alike.refl _) hN.2⟩
  have h1 := hN.1 w hw
  have h2 := (List.mem_filter.mp hw).2
  cases w <;> first | exact va_Nw.same rfl h h1 | cases h2
theorem q_NW.warm {s U : State} (h : s.WarmedH U.vm) (hN : q_NW s) : q_NW U := by
  refine ⟨fun w hw => ?_, va_AO.moved h.alike hN.2⟩
  have h1 := hN.1 w hw
  have h2 := (List.mem_filter.mp hw).2
  cases w <;> first | exact va_Nw.warmF h h1 | cases h2
theorem q_an_ok {w j : Nat} {o : String} (ho : q_ow[w]? = some o) (h : q_an w j = true) : Cond.classLink o j "FontOutlines$Part" ∈ q_tbl := by
  unfold q_an at h
  obtain ⟨x, hm, hx⟩ := List.any_eq_true.mp h
  have hk := List.all_eq_true.mp q_anL_ok x hm
  obtain ⟨x1, x2, x3⟩ := x
  simp only [Bool.and_eq_true, beq_iff_eq] at hx
  obtain ⟨rfl, rfl⟩ := hx
  dsimp only at hk
  rw [ho] at hk
  exact q_has_in hk
theorem q_ac_ok {w j : Nat} {o : String} (ho : q_ow[w]? = some o) (h : q_ac w j = true) : Cond.methodLink o j arraycopyName ∈ q_tbl := by
  unfold q_ac at h
  obtain ⟨x, hm, hx⟩ := List.any_eq_true.mp h
  have hk := List.all_eq_true.mp q_acL_ok x hm
  obtain ⟨x1, x2, x3⟩ := x
  simp only [Bool.and_eq_true, beq_iff_eq] at hx
  obtain ⟨rfl, rfl⟩ := hx
  dsimp only at hk
  rw [ho] at hk
  exact q_has_in hk
end
section
/-! what my machine says holds of the real one -/
section Q6
variable {p : Program} {l : Launch} {e : Env} {R : Room} {s : State} {m : MethodId} {args : Array Value} {below : List Frame} {meth : Method} {c : Code} {H : Heap} {locs : List Loc} {cells slots : Nat} {Q : State → Prop}
variable {cc : ByteArray} {pc : Nat} {ls : Array Slot} {rest : List Value} {G : q_G} {h : q_H} {n a : Nat} {H0 : Heap}
theorem q_rel.one (r : q_rel G h n H) {x : q_E} (ha : h a = some x) : va_P G.1 q_cl [(a, q_e G x)] H := by
  intro k q hk
  cases k with
  | zero => cases hk; exact (r.2 a x ha).2
  | succ k => simp at hk
theorem q_tys_at (G : q_G) {t : Nat} (ht : t < 5) : (q_tys G)[t]? = some (G.2.1 t, q_kind t) := by
  match t, ht with
  | 0, _ => rfl
  | 1, _ => rfl
  | 2, _ => rfl
  | 3, _ => rfl
  | 4, _ => rfl
/-- a field is written: the cell, the size, the rest -/
theorem q_put (hexec : p.tables.exec = Jvm.exec) (hb : c.code = cc) {own C : String} {T : u_T} {N ci index : Nat} {Ts : List Cond} (hts : ∀ w ∈ Ts, w.before args s = true) (hTs : ∀ w ∈ q_tbl, w ∈ Ts) (hown : s.vm.findClass own = some m.cls) (hK : va_K G.1 q_cl (q_tys G) s) (hNW : q_NW s) (r : q_rel G h n H) (hS : va_S (q_A G) H0 H locs) {fs : List Value} (ha : h a = some (.inr (ci, fs))) (hc : q_cl[ci]? = some (C, T, N)) {k : Nat} (hk : k < N) {b : Bool}
    (hl0 : b = false → Cond.fieldLink own index C (T k).2.1 (T k).2.2.1 ∈ q_tbl) (hl1 : b = true → Cond.fieldLinkNest own index C (T k).2.1 (T k).2.2.1 "FontOutlines" ∈ q_nst) (hfin : (T k).2.2.2 = true → b = false ∧ meth.name = "<init>" ∧ own = C) {v : Value} (hv : q_fit (q_ty ci k) v) (hl : k < fs.length) (hdg : decode cc pc = .ok (.putfield index, 3))
    (kk : ∀ (H1 : Heap) (locs1 : List Loc), q_rel G (q_set h a (.inr (ci, fs.set k v))) n H1 → va_S (q_A G) H0 H1 locs1 → W p l e R s m args below meth c H1 locs1 cells slots Q (F0 m (pc + 3) ls rest)) : W p l e R s m args below meth c H locs cells slots Q (F0 m pc ls (v :: .ref a :: rest)) := by
  obtain ⟨hin0, hty, hnm, hdc⟩ := q_cok ci C T N hc
  have hin : ∀ w ∈ u_ws C T N, w ∈ Ts := fun w hw => hTs w (hin0 w hw)
  have hap := va_apart (own := own) hts hin (q_ty ci) hty hnm hK hc
  have hA : q_A G a := (r.2 a _ ha).1
  obtain ⟨rr, h1, cell, q1, q2, q3, q4⟩ := (r.2 a _ ha).2
  have hr : rr = (C, T, N) := Option.some.inj (h1.symm.trans hc)
  subst hr
  obtain ⟨hSl, hfc, kC, hkC, hkind⟩ := hK.1 ci _ hc
  obtain ⟨cf, kf, fi, f, hi, hsl⟩ := hSl k hk
  have hi2 : s.fieldFound? C (T k).2.1 (T k).2.2.1 = some (cf, kf, fi, f) := by rw [← hdc k hk]; exact hi
  have hst := (u_facts hfc hkC (u_lays hts hin hk) hi).1
  have hlt : f.slot < cell.slots.size := by rw [hsl]; exact k2_hasslot (q4 k hk)
  have fin : ∀ H' : Heap, H'[a]? = some (cell.setSlot f.slot v) → H'.size = H.size → (∀ q, q ≠ a → H'[q]? = H[q]?) → W p l e R s m args below meth c H' (locs ++ [⟨a, f.slot⟩]) cells slots Q (F0 m (pc + 3) ls rest) := by
    intro H' e1 e2 e3
    refine kk H' _ (r.upd ha ?_ e2 e3) (hS.put e2 e3 hA)
    rw [hsl] at e1
    exact ⟨_, hc, t_OB.to (V := updV (vp_V fs) k v) ⟨_, e1, q2, q3, t_set q4 hap hk v⟩ (fun j _ => vp_updV_set hl v j)⟩
  have hlay := hts _ (hin _ (u_in_lay hk))
  unfold u_lay at hlay
  by_cases hf : (T k).2.2.2 = true
  · obtain ⟨hb0, hinit, hoC⟩ := hfin hf
    rw [if_pos hf] at hlay
    have hcf : m.cls = cf := by
      obtain ⟨_, _, c', _, _, _, -, -, hf', -, -, -, hown2, -⟩ := Cond.laysFinal_spec hlay
      have e1 : c' = cf := by have := hi.symm.trans hf'; simp at this; exact this.1.symm
      rw [hdc k hk, ← hoC] at hown2
      rw [← e1]; exact Option.some.inj (hown.symm.trans hown2)
    have h6 := u_fits hfc hkC hkind (Or.inr hlay) hi (hty k hk) hv.1 hv.2
    exact W.putFinK hexec hb hown (hts _ (hTs _ (hl0 hb0))) hi2 hst hcf hinit (by rw [q2]; exact h6) q1 q3 hlt rfl rfl hdg fin
  · rw [if_neg hf] at hlay
    have h6 := u_store hfc hkC hkind hlay hi (hty k hk) hv.1 hv.2
    cases hbb : b with
    | false => exact W.putK hexec hb (f := f) ⟨hown, hts _ (hTs _ (hl0 hbb)), ⟨_, _, _, hi2⟩, hst⟩ (by rw [q2]; exact h6) q1 q3 hlt rfl rfl hdg fin
    | true => exact va_WputK hexec hb (f := f) hown (va_Nw.use rfl (hNW.1 _ (hl1 hbb))) hi2 hst (by rw [q2]; exact h6) q1 q3 hlt rfl rfl hdg fin
theorem q_getf (hexec : p.tables.exec = Jvm.exec) (hb : c.code = cc) {own C : String} {T : u_T} {N ci index : Nat} {Ts : List Cond} (hts : ∀ w ∈ Ts, w.before args s = true) (hTs : ∀ w ∈ q_tbl, w ∈ Ts) (hown : s.vm.findClass own = some m.cls) (hK : va_K G.1 q_cl (q_tys G) s) (hNW : q_NW s) (r : q_rel G h n H) {fs : List Value} (ha : h a = some (.inr (ci, fs))) (hc : q_cl[ci]? = some (C, T, N)) {k : Nat} (hk : k < N) {b : Bool}
    (hl0 : b = false → Cond.fieldLink own index C (T k).2.1 (T k).2.2.1 ∈ q_tbl) (hl1 : b = true → Cond.fieldLinkNest own index C (T k).2.1 (T k).2.2.1 "FontOutlines" ∈ q_nst) {v : Value} (hv : fs[k]? = some v) (hdg : decode cc pc = .ok (.getfield index, 3))
    (kk : W p l e R s m args below meth c H locs cells slots Q (F0 m (pc + 3) ls (v :: rest))) : W p l e R s m args below meth c H locs cells slots Q (F0 m pc ls (.ref a :: rest)) := by
  obtain ⟨hin0, hty, hnm, hdc⟩ := q_cok ci C T N hc
  have hin : ∀ w ∈ u_ws C T N, w ∈ Ts := fun w hw => hTs w (hin0 w hw)
  cases hbb : b with
  | false => exact va_get (D := G.1) hexec hb hts hin hown hK (r.one ha) 0 rfl hc k hk (hts _ (hTs _ (hl0 hbb))) (fun x hx => by rw [← hdc k hk]; exact hx) hv hdg kk
  | true => exact va_getN (D := G.1) hexec hb hts hin hown hK (r.one ha) 0 rfl hc k hk (va_Nw.use rfl (hNW.1 _ (hl1 hbb))) (fun x hx => by rw [← hdc k hk]; exact hx) hv hdg kk
theorem q_cellI {t : Nat} {cA : ClassId} {mm : Nat} {g : Nat → Int32} {j : Nat} {x : Int32} (H1 : Heap) (e1 : H1[a]? = some ((vp_cell cA (mm, .inl g)).setSlot j (.int x))) : H1[a]? = some (vp_cell cA (mm, .inl (upd g j x))) := by
  rw [e1, vp_cell_i, vp_cell_i, arrV_store]
  congr 2
  funext q
  by_cases hq : q = j
  · subst hq; simp [updV, upd]
  · simp [updV, upd, hq]
theorem q_iast (hexec : p.tables.exec = Jvm.exec) (hb : c.code = cc) (hK : va_K G.1 q_cl (q_tys G) s) (r : q_rel G h n H) (hS : va_S (q_A G) H0 H locs) {mm : Nat} {g : Nat → Int32} (ha : h a = some (.inl (0, mm, .inl g))) {i x : Int32} (hin : vp_in i mm) (hdg : decode cc pc = .ok (.iastore, 1))
    (kk : ∀ (H1 : Heap) (locs1 : List Loc), q_rel G (q_set h a (.inl (0, mm, .inl (upd g i.toNatClampNeg x)))) n H1 → va_S (q_A G) H0 H1 locs1 → W p l e R s m args below meth c H1 locs1 cells slots Q (F0 m (pc + 1) ls rest)) : W p l e R s m args below meth c H locs cells slots Q (F0 m pc ls (.int x :: .int i :: .ref a :: rest)) := by
  have hat := (r.2 a _ ha).2
  refine W.iast hexec hb hat ((hK.2 0 _ rfl).1 mm (fun j => .int (g j))) (fun q => by cases q) (by show ¬ (i < 0 ∨ (arrV _ _ _).slots.size ≤ _); rw [arrV_size]; exact hin) rfl rfl hdg fun H1 e1 z oq => ?_
  exact kk H1 _ (r.upd ha (q_cellI (t := 0) H1 e1) z oq) (hS.put z oq (r.2 a _ ha).1)
theorem q_bast (hexec : p.tables.exec = Jvm.exec) (hb : c.code = cc) (hK : va_K G.1 q_cl (q_tys G) s) (r : q_rel G h n H) (hS : va_S (q_A G) H0 H locs) {t mm : Nat} (ht : t = 1 ∨ t = 3) {g : Nat → Int32} (ha : h a = some (.inl (t, mm, .inl g))) {i x : Int32} (hin : vp_in i mm) (hdg : decode cc pc = .ok (.bastore, 1))
    (kk : ∀ (H1 : Heap) (locs1 : List Loc), q_rel G (q_set h a (.inl (t, mm, .inl (upd g i.toNatClampNeg (vp_nar (q_kind t) x))))) n H1 → va_S (q_A G) H0 H1 locs1 → W p l e R s m args below meth c H1 locs1 cells slots Q (F0 m (pc + 1) ls rest)) : W p l e R s m args below meth c H locs cells slots Q (F0 m pc ls (.int x :: .int i :: .ref a :: rest)) := by
  have hat := (r.2 a _ ha).2
  rcases ht with rfl | rfl
  · refine W.bast hexec hb hat ((hK.2 1 _ rfl).1 mm (fun j => .int (g j))) (fun q => by cases q) (by show ¬ (i < 0 ∨ (arrV _ _ _).slots.size ≤ _); rw [arrV_size]; exact hin) rfl rfl hdg fun H1 e1 z oq => ?_
    exact kk H1 _ (r.upd ha (q_cellI (t := 1) H1 e1) z oq) (hS.put z oq (r.2 a _ ha).1)
  · refine W.zast hexec hb hat ((hK.2 3 _ rfl).1 mm (fun j => .int (g j))) (fun q => by cases q) (by show ¬ (i < 0 ∨ (arrV _ _ _).slots.size ≤ _); rw [arrV_size]; exact hin) rfl rfl hdg fun H1 e1 z oq => ?_
    exact kk H1 _ (r.upd ha (q_cellI (t := 3) H1 e1) z oq) (hS.put z oq (r.2 a _ ha).1)
theorem q_last (hexec : p.tables.exec = Jvm.exec) (hb : c.code = cc) (hK : va_K G.1 q_cl (q_tys G) s) (r : q_rel G h n H) (hS : va_S (q_A G) H0 H locs) {mm : Nat} {g : Nat → Int64} (ha : h a = some (.inl (2, mm, .inr (.inl g)))) {i : Int32} {x : Int64} (hin : vp_in i mm) (hdg : decode cc pc = .ok (.lastore, 1))
    (kk : ∀ (H1 : Heap) (locs1 : List Loc), q_rel G (q_set h a (.inl (2, mm, .inr (.inl (vp_updL g i.toNatClampNeg x))))) n H1 → va_S (q_A G) H0 H1 locs1 → W p l e R s m args below meth c H1 locs1 cells slots Q (F0 m (pc + 1) ls rest)) : W p l e R s m args below meth c H locs cells slots Q (F0 m pc ls (.long x :: .int i :: .ref a :: rest)) := by
  have hat := (r.2 a _ ha).2
  refine W.last hexec hb hat ((hK.2 2 _ rfl).1 mm (fun j => .long (g j))) (fun q => by cases q) (by show ¬ (i < 0 ∨ (arrV _ _ _).slots.size ≤ _); rw [arrV_size]; exact hin) rfl rfl hdg fun H1 e1 z oq => ?_
  refine kk H1 _ (r.upd ha ?_ z oq) (hS.put z oq (r.2 a _ ha).1)
  show H1[a]? = some (vp_cell _ _)
  rw [e1]
  show some ((vp_cell _ _).setSlot _ _) = _
  rw [vp_cell_l, vp_cell_l, arrV_store]
  congr 2
  funext q
  by_cases hq : q = i.toNatClampNeg
  · subst hq; simp [updV, vp_updL]
  · simp [updV, vp_updL, hq]
theorem q_aast (hexec : p.tables.exec = Jvm.exec) (hb : c.code = cc) (hK : va_K G.1 q_cl (q_tys G) s) (r : q_rel G h n H) (hS : va_S (q_A G) H0 H locs) {mm v : Nat} {vs : List Value} {g : Nat → Option Nat} (ha : h a = some (.inl (4, mm, .inr (.inr (.inr (.inr g)))))) (hv : h v = some (.inr (5, vs))) {i : Int32} (hin : vp_in i mm) (hdg : decode cc pc = .ok (.aastore, 1))
    (kk : ∀ (H1 : Heap) (locs1 : List Loc), q_rel G (q_set h a (.inl (4, mm, .inr (.inr (.inr (.inr (va_up g i.toNatClampNeg (some v)))))))) n H1 → va_S (q_A G) H0 H1 locs1 → W p l e R s m args below meth c H1 locs1 cells slots Q (F0 m (pc + 1) ls rest)) : W p l e R s m args below meth c H locs cells slots Q (F0 m pc ls (.ref v :: .int i :: .ref a :: rest)) := by
  have hlt : i.toNatClampNeg < mm := Nat.not_le.mp fun q => hin (Or.inr q)
  have h0 : ¬ i < 0 := fun q => hin (Or.inl q)
  have hat := (r.2 a _ ha).2
  obtain ⟨r', hr', cellV, g1, g2, g3, -⟩ := (r.2 v _ hv).2
  have hcls := (hK.1 5 _ (show q_cl[5]? = some ("FontOutlines$Part", q_T5, 9) from rfl)).2
  obtain ⟨kA, comp, k1, k2, k3, -⟩ := (hK.2 4 _ (show (q_tys G)[4]? = some (G.2.1 4, .object "FontOutlines$Part") from rfl)).2
  have hcomp : comp = G.1.1 5 := Option.some.inj (k3.symm.trans hcls.1)
  subst hcomp
  obtain ⟨kC, hkC, -⟩ := hcls.2
  refine W.aast hexec hb hat (fun q h => by cases h) (fun h => by cases h) k1 k2 rfl hkC ⟨h0, by show _ < (arrV _ _ _).slots.size; rw [arrV_size]; exact hlt⟩ g1 (fun q h => by rw [g3] at h; cases h) (by rw [g2]; exact hkC) (by rw [g2]; exact va_assign hcls) rfl rfl hdg fun H1 e1 z oq => ?_
  refine kk H1 _ (r.upd ha ?_ z oq) (hS.put z oq (r.2 a _ ha).1)
  show H1[a]? = some (vp_cell _ _)
  rw [e1]
  show some ((vp_cell _ _).setSlot _ _) = _
  rw [vp_cell_q, vp_cell_q, arrV_store]
  congr 2
  funext q
  by_cases hq : q = i.toNatClampNeg
  · subst hq; simp [updV, va_up, va_rf]
  · simp [updV, va_up, hq]
theorem q_zero_len (ci : Nat) : ∀ N, (q_zero ci N).length = N
  | 0 => rfl
  | N + 1 => by simp [q_zero, q_zero_len ci N]
theorem q_dv_e (t : FieldType) : q_dv t = defaultValue t := by cases t <;> rfl
theorem q_zero_at (ci : Nat) : ∀ N j, j < N → defaultValue (q_ty ci j) = vp_V (q_zero ci N) j
  | 0, j, h => by omega
  | N + 1, j, h => by
    unfold vp_V
    by_cases hj : j < N
    · have := q_zero_at ci N j hj
      unfold vp_V at this
      rw [this, show q_zero ci (N + 1) = q_zero ci N ++ [q_dv (q_ty ci N)] from rfl, List.getD_eq_getElem?_getD, List.getD_eq_getElem?_getD, List.getElem?_append_left (by rw [q_zero_len]; exact hj)]
    · have hj' : j = N := by omega
      subst hj'
      rw [show q_zero ci (j + 1) = q_zero ci j ++ [q_dv (q_ty ci j)] from rfl, List.getD_eq_getElem?_getD, List.getElem?_append_right (by rw [q_zero_len]; exact Nat.le_refl _), q_zero_len, Nat.sub_self]
      exact (q_dv_e _).symm
theorem q_newo (hexec : p.tables.exec = Jvm.exec) (hb : c.code = cc) {own C : String} {T : u_T} {N ci index : Nat} {Ts : List Cond} (hts : ∀ w ∈ Ts, w.before args s = true) (hTs : ∀ w ∈ q_tbl, w ∈ Ts) (hown : s.vm.findClass own = some m.cls) (hK : va_K G.1 q_cl (q_tys G) s) (hB : G.2.2 ≤ H0.size) (r : q_rel G h n H) (hS : va_S (q_A G) H0 H locs) (hc : q_cl[ci]? = some (C, T, N)) (hl : Cond.classLink own index C ∈ q_tbl ∧ Cond.instantiable C N ∈ q_tbl ∧ Cond.initialized C ∈ q_tbl) (hcells : cells + 1 ≤ R.cells) (hslots : slots + N ≤ R.slots) (hdg : decode cc pc = .ok (.new index, 3))
    (kk : ∀ H1 : Heap, q_rel G (q_set h n (.inr (ci, q_zero ci N))) (n + 1) H1 → va_S (q_A G) H0 H1 locs → W p l e R s m args below meth c H1 locs (cells + 1) (slots + N) Q (F0 m (pc + 3) ls (.ref n :: rest))) : W p l e R s m args below meth c H locs cells slots Q (F0 m pc ls rest) := by
  obtain ⟨hin0, hty, hnm, hdc⟩ := q_cok ci C T N hc
  have hin : ∀ w ∈ u_ws C T N, w ∈ Ts := fun w hw => hTs w (hin0 w hw)
  have hKn := hK.1 ci _ hc
  refine W.newcK hexec hb hown (hts _ (hTs _ hl.1)) (hts _ (hTs _ hl.2.1)) (hts _ (hTs _ hl.2.2)) rfl hdg hcells hslots hKn.2.1 r.1 fun H1 kC hkC e1 z1 o1 => ?_
  refine kk H1 (r.push (by rw [← r.1]; exact Nat.le_trans hB hS.1) ⟨_, hc, (u_born (q_ty ci) hts hin hKn hkC e1 hty).to (q_zero_at ci N)⟩ z1 o1) ⟨by rw [z1, ← r.1]; exact Nat.le_trans hS.1 (Nat.le_succ _), fun x h1 h2 => (o1 x (by rw [← r.1]; exact Nat.lt_of_lt_of_le h1 hS.1)).trans (hS.2.1 x h1 h2), hS.2.2⟩
theorem q_newa (hexec : p.tables.exec = Jvm.exec) (hb : c.code = cc) {atype : ArrayType} {kd : Nat} (hkd : q_atk atype = some kd) {Ts : List Cond} (hts : ∀ w ∈ Ts, w.before args s = true) (hTs : ∀ w ∈ q_tbl, w ∈ Ts) (hK : va_K G.1 q_cl (q_tys G) s) (hB : G.2.2 ≤ H0.size) (r : q_rel G h n H) (hS : va_S (q_A G) H0 H locs) {x : Int32} (hx0 : ¬ x < 0) (hx1 : x.toNatClampNeg ≤ 1000000) (hcells : cells + 1 ≤ R.cells) (hslots : slots + x.toNatClampNeg ≤ R.slots) (hdg : decode cc pc = .ok (.newarray atype, 2))
    (kk : ∀ H1 : Heap, q_rel G (q_set h n (q_new kd x.toNatClampNeg)) (n + 1) H1 → va_S (q_A G) H0 H1 locs → W p l e R s m args below meth c H1 locs (cells + 1) (slots + x.toNatClampNeg) Q (F0 m (pc + 2) ls (.ref n :: rest))) : W p l e R s m args below meth c H locs cells slots Q (F0 m pc ls (.int x :: rest)) := by
  have key : ∀ (ty : FieldType) (a0 : vp_A), newarray.typeOf atype = ty → (q_tys G)[kd]? = some (G.2.1 kd, ty) → Cond.arrayClass ty ∈ q_tbl → componentBytes ty ≤ 8 → q_new kd x.toNatClampNeg = .inl (kd, a0) → (∀ cA : ClassId, vp_cell cA a0 = arrV cA x.toNatClampNeg (fun _ => defaultValue ty)) → (∀ U cA, va_RA U cA ty → U.vm.findClass ("[" ++ ty.toString) = some cA) → W p l e R s m args below meth c H locs cells slots Q (F0 m pc ls (.int x :: rest)) := by
    intro ty a0 hty ht hac hcb hq hcell hra
    subst hty
    refine va_newaK hexec hb (hts _ (hTs _ hac)) rfl hdg rfl hx0 rfl (Nat.le_trans (Nat.mul_le_mul hx1 hcb) (by decide)) hcells hslots r.1 fun H1 cA e1 z1 o1 hAr hNm => ?_
    have hcA : cA = G.2.1 kd := Option.some.inj (hNm.symm.trans (hra s _ (hK.2 kd _ ht).2))
    subst hcA
    refine kk H1 (r.push (by rw [← r.1]; exact Nat.le_trans hB hS.1) (by rw [hq]; show H1[n]? = some (vp_cell _ _); rw [hcell]; exact e1) z1 o1) ⟨by rw [z1, ← r.1]; exact Nat.le_trans hS.1 (Nat.le_succ _), fun x h1 h2 => (o1 x (by rw [← r.1]; exact Nat.lt_of_lt_of_le h1 hS.1)).trans (hS.2.1 x h1 h2), hS.2.2⟩
  cases atype <;> first | (cases hkd; done) | skip
  · cases hkd; exact key .boolean _ rfl rfl q_ac_boolean (by decide) rfl (fun _ => rfl) (fun U cA h => h)
  · cases hkd; exact key .byte _ rfl rfl q_ac_byte (by decide) rfl (fun _ => rfl) (fun U cA h => h)
  · cases hkd; exact key .int _ rfl rfl q_ac_int (by decide) rfl (fun _ => rfl) (fun U cA h => h)
  · cases hkd; exact key .long _ rfl rfl q_ac_long (by decide) rfl (fun _ => rfl) (fun U cA h => h)
theorem q_newq (hexec : p.tables.exec = Jvm.exec) (hb : c.code = cc) {own : String} {index : Nat} {Ts : List Cond} (hts : ∀ w ∈ Ts, w.before args s = true) (hTs : ∀ w ∈ q_tbl, w ∈ Ts) (hown : s.vm.findClass own = some m.cls) (hcl : Cond.classLink own index "FontOutlines$Part" ∈ q_tbl) (hover : va_AO "FontOutlines$Part" s) (hK : va_K G.1 q_cl (q_tys G) s) (hB : G.2.2 ≤ H0.size) (r : q_rel G h n H) (hS : va_S (q_A G) H0 H locs) {x : Int32} (hx0 : ¬ x < 0) (hx1 : x.toNatClampNeg ≤ 1000000) (hcells : cells + 1 ≤ R.cells) (hslots : slots + x.toNatClampNeg ≤ R.slots) (hdg : decode cc pc = .ok (.anewarray index, 3))
    (kk : ∀ H1 : Heap, q_rel G (q_set h n (q_new 4 x.toNatClampNeg)) (n + 1) H1 → va_S (q_A G) H0 H1 locs → W p l e R s m args below meth c H1 locs (cells + 1) (slots + x.toNatClampNeg) Q (F0 m (pc + 3) ls (.ref n :: rest))) : W p l e R s m args below meth c H locs cells slots Q (F0 m pc ls (.int x :: rest)) := by
  refine W.anew hexec hb hown (hts _ (hTs _ hcl)) (va_AO.use hover) rfl hdg rfl hx0 (by omega) hcells hslots fun cA kA comp f1 f2 f3 f4 => ?_
  obtain ⟨kA', comp', -, -, -, g4⟩ := (hK.2 4 _ (show (q_tys G)[4]? = some (G.2.1 4, .object "FontOutlines$Part") from rfl)).2
  have hcA : cA = G.2.1 4 := Option.some.inj (f1.symm.trans g4)
  subst hcA
  have hsz := r.1
  generalize hH1 : H.push ({ cls := G.2.1 4, slots := Array.replicate x.toNatClampNeg .null, vm := .none } : Cell) = H1
  have z1 : H1.size = n + 1 := by rw [← hH1, Array.size_push, hsz]
  have e1 : H1[n]? = some (arrV (G.2.1 4) x.toNatClampNeg (fun _ => .null)) := by rw [← hH1, ← hsz, Array.getElem?_push_size, ← arrV_new]
  have o1 : ∀ q : Nat, q < n → H1[q]? = H[q]? := fun q hq => by rw [← hH1, Array.getElem?_push, if_neg (by rw [hsz]; exact Nat.ne_of_lt hq)]
  rw [hsz]
  refine kk H1 (r.push (by rw [← hsz]; exact Nat.le_trans hB hS.1) (by show H1[n]? = some (vp_cell (G.2.1 4) (x.toNatClampNeg, .inr (.inr (.inr (.inr (fun _ => none)))))); rw [vp_cell_q]; exact e1) z1 o1) ⟨by rw [z1, ← hsz]; exact Nat.le_trans hS.1 (Nat.le_succ _), fun x h1 h2 => (o1 x (by rw [← hsz]; exact Nat.lt_of_lt_of_le h1 hS.1)).trans (hS.2.1 x h1 h2), hS.2.2⟩
theorem q_copy (hexec : p.tables.exec = Jvm.exec) (hb : c.code = cc) (hml : c.maxLocals = ls.size) {own : String} {index : Nat} {Ts : List Cond} (hts : ∀ w ∈ Ts, w.before args s = true) (hTs : ∀ w ∈ q_tbl, w ∈ Ts) (hown : s.vm.findClass own = some m.cls) (hlk : Cond.methodLink own index arraycopyName ∈ q_tbl) (hK : va_K G.1 q_cl (q_tys G) s) (r : q_rel G h n H) (hS : va_S (q_A G) H0 H locs) {a0 n0 n1 : Nat} {f g : Nat → Int32} (ha0 : h a0 = some (.inl (1, n0, .inl f))) (ha1 : h a = some (.inl (1, n1, .inl g)))
    {sp dp nn : Int32} (h1 : ¬ sp < 0) (h2 : ¬ dp < 0) (h3 : ¬ nn < 0) (h4 : sp.toNatClampNeg + nn.toNatClampNeg ≤ n0) (h5 : dp.toNatClampNeg + nn.toNatClampNeg ≤ n1) (hfit : ∀ i, i < nn.toNatClampNeg → fits .byte (.int (f (sp.toNatClampNeg + i))) = true)
    (hframes : 1 ≤ R.frames) (hlocals : (rest.map fun v => v.category).sum + (nativeFrameWords "java/lang/System" "arraycopy" 5 + 11) ≤ R.locals) (hdg : decode cc pc = .ok (.invokestatic index, 3))
    (kk : ∀ (H1 : Heap) (locs1 : List Loc), q_rel G (q_set h a (.inl (1, n1, .inl (va_cpy f g sp.toNatClampNeg dp.toNatClampNeg nn.toNatClampNeg)))) n H1 → va_S (q_A G) H0 H1 locs1 → W p l e R s m args below meth c H1 locs1 cells slots Q (F0 m (pc + 3) ls rest)) : W p l e R s m args below meth c H locs cells slots Q (F0 m pc ls (.int nn :: .int dp :: .ref a :: .int sp :: .ref a0 :: rest)) := by
  have cn : ∀ z : Int32, ¬ z < 0 → z.toInt = (z.toNatClampNeg : Int) := by
    intro z hz
    have hz0 : (0 : Int) ≤ z.toInt := by
      have := Int32.not_lt.mp hz
      simpa using Int32.le_iff_toInt_le.mp this
    show z.toInt = ((z.toInt.toNat : Nat) : Int)
    omega
  intro T hT X
  have hc0 : H[a0]? = some (vp_cell (G.2.1 1) (n0, .inl f)) := (r.2 a0 _ ha0).2
  have hc1 : H[a]? = some (vp_cell (G.2.1 1) (n1, .inl g)) := (r.2 a _ ha1).2
  have hA : q_A G a := (r.2 a _ ha1).1
  obtain ⟨-, k0, hk0, cm0, hkk0⟩ := (hK.2 1 _ rfl).1 n0 (fun j => .int (f j))
  obtain ⟨-, k1, hk1, cm1, hkk1⟩ := (hK.2 1 _ rfl).1 n1 (fun j => .int (g j))
  obtain ⟨vm', X', step⟩ := X.arraycopy hexec hown (hts _ (hTs _ hlk)) (hts _ (hTs _ q_na_ac)) (hts _ (hTs _ q_st_ac)) (hts _ (hTs _ q_in_Sys)) (src := a0) (dst := a) (cs := vp_cell (G.2.1 1) (n0, .inl f)) (cd := vp_cell (G.2.1 1) (n1, .inl g)) (srcPos := sp) (destPos := dp) (n := nn) (by rw [hT]; exact hc0) (by rw [hT]; exact hc1)
    (fun _ h => by cases h) (fun _ h => by cases h) (fun h => by cases h) (fun h => by cases h) hk0 hk1 hkk0 hkk1 (show ((refKind FieldType.byte != refKind FieldType.byte) || (!refKind FieldType.byte && FieldType.byte != FieldType.byte)) = false by decide) h1 h2 h3
    (by rw [cn sp h1, cn nn h3]; show ¬ _ > ((arrV _ n0 (fun j => .int (f j))).slots.size : Int); rw [arrV_size]; omega)
    (by rw [cn dp h2, cn nn h3]; show ¬ _ > ((arrV _ n1 (fun j => .int (g j))).slots.size : Int); rw [arrV_size]; omega)
    (fun vm₁ _ i hi => by
      have e : (vp_cell (G.2.1 1) (n0, .inl f)).slots.getD (sp.toNatClampNeg + i) .null = .int (f (sp.toNatClampNeg + i)) := by
        show (arrV _ n0 (fun j => .int (f j))).slots.getD _ _ = _
        rw [Array.getD_eq_getD_getElem?, arrV_read _ _ (by omega)]
        rfl
      exact ⟨by rw [e]; exact hfit i hi, by rw [e]; exact trivial⟩)
    (g := F0 m pc ls (.int nn :: .int dp :: .ref a :: .int sp :: .ref a0 :: rest)) rfl (by rw [hml]) (rest := rest) rfl (by rw [hb]; exact hdg) hframes (by show 2 * 0 + _ + _ ≤ _; omega)
  have e1 : copied (vp_cell (G.2.1 1) (n0, .inl f)) (vp_cell (G.2.1 1) (n1, .inl g)) sp dp nn = vp_cell (G.2.1 1) (n1, .inl (va_cpy f g sp.toNatClampNeg dp.toNatClampNeg nn.toNatClampNeg)) := va_copied (fun z => .int z) _ _ f g h4
  rw [e1] at X' step
  have hl : a < H.size := (Array.getElem?_eq_some_iff.mp hc1).1
  generalize vp_cell (G.2.1 1) (n1, .inl (va_cpy f g sp.toNatClampNeg dp.toNatClampNeg nn.toNatClampNeg)) = cl1 at X' step e1
  have hheap : ((T.setVm vm').setCell a cl1).heap = H.setIfInBounds a cl1 := by rw [← hT]; rfl
  have oq : ∀ q : Nat, q ≠ a → (H.setIfInBounds a cl1)[q]? = H[q]? := fun q hq => by simp [Array.getElem?_setIfInBounds, Ne.symm hq]
  have es : (H.setIfInBounds a cl1)[a]? = some cl1 := by simp [Array.getElem?_setIfInBounds, hl]
  have hz : (H.setIfInBounds a cl1).size = H.size := by simp
  obtain ⟨t, a1, b1⟩ := kk (H.setIfInBounds a cl1) _ (r.upd ha1 (by show (H.setIfInBounds a cl1)[a]? = some (vp_cell _ _); rw [es]; exact congrArg some (e1.symm.trans (va_copied (fun z => .int z) _ _ f g h4))) hz oq) ⟨by rw [hz]; exact hS.1, fun q g1 g2 => by
      rw [oq q (fun e => g2 (by rw [e]; exact hA))]
      exact hS.2.1 q g1 g2, fun q hq => by
      rcases List.mem_append.mp hq with h | h
      · exact hS.2.2 q h
      · obtain ⟨z, -, hz⟩ := List.mem_map.mp h
        rw [← hz]
        exact hA⟩ _ hheap X'
  exact ⟨t, step t a1, b1⟩
/-- behind a call -/
theorem q_after {mc ms : Nat} {Qp : q_P} {st0 : List Value} {aa : Array Value} (hr : va_Run p l e R s m args below meth c H locs cells slots mc ms (F0 m pc ls st0) rest (q_Qc G Qp aa) (q_A G)) (hS : va_S (q_A G) H0 H locs)
    (kk : ∀ (v : Option Value) (h1 : q_H) (n1 : Nat) (H1 : Heap) (locs1 : List Loc), q_rel G h1 n1 H1 → Qp v h1 n1 → va_S (q_A G) H0 H1 locs1 → W p l e R s m args below meth c H1 locs1 (cells + mc) (slots + ms) Q (F0 m (pc + 3) ls (v.toList ++ rest))) : W p l e R s m args below meth c H locs cells slots Q (F0 m pc ls st0) := by
  intro T hT X
  obtain ⟨v, st₀, t, T', L, h0, X', hL, e1, e2, ⟨v', h1, n1, hv, hrel, hq, hz, hk⟩, st⟩ := hr T hT X
  cases hv
  rw [h0] at hz hk
  obtain ⟨t2, a1, b1⟩ := kk v h1 n1 T'.heap (locs ++ L) (by rw [e1]; exact hrel) hq
    ⟨Nat.le_trans hS.1 (by rw [e1]; exact hz), fun q g1 g2 => by rw [e1, hk q (Nat.lt_of_lt_of_le g1 hS.1) g2]; exact hS.2.1 q g1 g2, fun q hq => by
      rcases List.mem_append.mp hq with hh | hh
      · exact hS.2.2 q hh
      · exact hL q hh⟩ T' rfl X'
  exact ⟨t2, st t2 a1, b1⟩
theorem q_blind (G : q_G) (h : q_H) (n : Nat) (As : List Value) : FrameBlind (va_Pc As (fun U => q_rel G h n U.heap ∧ q_Kx G U)) := by
  intro a U g mk q
  obtain ⟨q0, q1, qK, qN, qB⟩ := q
  exact ⟨q0, q1, va_K.moved (u := U) (U := U.calling g mk a) (Vm.Alike.refl U.vm) qK, q_NW.same (u := U) rfl qN, qB⟩
theorem q_pre (hKx : q_Kx G s) (r : q_rel G h n H) (hS : va_S (q_A G) s.heap H locs) (As : List Value) : ∀ U : State, U.heap = H → s.WarmedH U.vm → va_Pc As (fun U => q_rel G h n U.heap ∧ q_Kx G U) As.toArray U :=
  fun U hU hW => ⟨rfl, by rw [hU]; exact r, va_K.moved hW.alike hKx.1, hKx.2.1.warm hW, by rw [hU]; exact Nat.le_trans hKx.2.2 hS.1⟩
end Q6
end
section
/-! one instruction; a block; a walk over blocks -/
def q_len : Instr → Nat
  | .bipush _ => 2
  | .ldc _ => 2
  | .iload _ => 2
  | .lload _ => 2
  | .aload _ => 2
  | .istore _ => 2
  | .lstore _ => 2
  | .astore _ => 2
  | .newarray _ => 2
  | .sipush _ => 3
  | .ldc_w _ => 3
  | .ldc2_w _ => 3
  | .iinc _ _ => 3
  | .goto _ => 3
  | .ifCond _ _ => 3
  | .if_icmp _ _ => 3
  | .getfield _ => 3
  | .putfield _ => 3
  | .invokevirtual _ => 3
  | .invokespecial _ => 3
  | .invokestatic _ => 3
  | .new _ => 3
  | .anewarray _ => 3
  | .checkcast _ => 3
  | _ => 1
def q_isT : Instr → Bool
  | .tableswitch _ _ _ _ => true
  | _ => false
/-- what is asked of the code at an instruction: its jump, its local -/
def q_tg (L : Nat) (i : Instr) (pc t : Nat) : Bool := match i with
  | .goto o => decide ((pc : Int) + o = (t : Int))
  | .ifCond _ o => decide ((pc : Int) + o = (t : Int))
  | .if_icmp _ o => decide ((pc : Int) + o = (t : Int))
  | .istore j => decide (j < L)
  | .istore_n j => decide (j.val < L)
  | .astore j => decide (j < L)
  | .astore_n j => decide (j.val < L)
  | .iinc j _ => decide (j < L)
  | .lstore j => decide (j + 1 < L)
  | .lstore_n j => decide (j.val + 1 < L)
  | _ => true
/-- a final field is written in its class's constructor alone -/
def q_fin (M : q_MT) (i : Instr) : Bool := match i with
  | .putfield j => match q_fl M.1 j with
    | some (ci, k, b) => match q_cl[ci]? with
      | some (C, T, _) => if (T k).2.2.2 then (!b && decide ((q_y M).name = "<init>") && decide ((q_y M).cls = C)) else true
      | none => false
    | none => false
  | _ => true
theorem q_nfw : nativeFrameWords "java/lang/System" "arraycopy" 5 + 19 ≤ 64 := by decide +kernel
theorem q_sl_s {pc : Nat} {x : Int32} {f : Nat → Prop} : ∀ {offs : List Int} {lo : Int} {j : Nat} {off : Int}, q_sl pc x f lo offs → offs[j]? = some off → x.toInt = lo + j → q_jp pc off f
  | [], lo, j, off, h, h1, h2 => by simp at h1
  | o :: r, lo, 0, off, h, h1, h2 => by
    simp at h1
    subst h1
    exact h.1 (by rw [h2]; simp)
  | o :: r, lo, j + 1, off, h, h1, h2 => q_sl_s (offs := r) (lo := lo + 1) (j := j) h.2 (by simpa using h1) (by rw [h2]; push_cast; omega)
set_option maxHeartbeats 4000000 in
theorem q_sd {G : q_G} {l : Launch} {M : q_MT} {d mc ms : Nat} {Q : q_P} {K : Nat → q_C} {i : Instr} {pc t : Nat} {nx : q_C} (ln : Nat) (hd : decode (q_b M) pc = .ok (i, ln)) (hln : (∃ a b c e, i = .tableswitch a b c e) ∨ (q_isT i = false ∧ ln = q_len i)) (ht : q_tg (q_ln M) i pc t = true) (hfn : q_fin M i = true)
    (hK : ∀ t lv st h n k sl, K t lv st h n k sl → q_Z G l M d mc ms Q t lv st h n k sl) (hn : ∀ lv st h n k sl, nx lv st h n k sl → q_Z G l M d mc ms Q (pc + ln) lv st h n k sl) :
    ∀ lv st h n k sl, q_ins G l M d mc ms Q K i pc t nx lv st h n k sl → q_Z G l M d mc ms Q pc lv st h n k sl := by
  intro lv st h n k sl hi p e s m args below meth c H locs ls cx r hS hl
  have hx := cx.1
  have hb := cx.2.1
  have hr := cx.2.2.1
  have hml := cx.2.2.2.1
  have hlk := cx.2.2.2.2.1
  have hown := cx.2.2.2.2.2.1
  have hts := cx.2.2.2.2.2.2.1
  have hKx := cx.2.2.2.2.2.2.2.1
  have hnm := cx.2.2.2.2.2.2.2.2.1
  have how := cx.2.2.2.2.2.2.2.2.2
  have hTs : ∀ w ∈ q_tbl, w ∈ q_ws M := fun w hw => List.mem_cons_of_mem _ hw
  have tb : ∀ w ∈ q_tbl, w.before args s = true := fun w hw => hts w (hTs w hw)
  have hB : G.2.2 ≤ s.heap.size := hKx.2.2
  have hx := hx
  rcases hln with ⟨df, lo, hi', offs, rfl⟩ | ⟨hnt, rfl⟩
  · obtain ⟨x, r2, rfl, h1, h2, h3⟩ := q_i_s hi
    by_cases hq : x.toInt < lo ∨ hi' < x.toInt
    · obtain ⟨g1, g2⟩ := h1 hq
      exact lv_tableOut hx hb hd hq (by omega) (hK _ _ _ _ _ _ _ g2 p e s m args below meth c H locs ls cx r hS hl)
    · have q1 : ¬ x.toInt < lo := fun q => hq (Or.inl q)
      have q2 : ¬ hi' < x.toInt := fun q => hq (Or.inr q)
      have q3 : (x.toInt - lo).toNat < offs.size := by omega
      obtain ⟨off, ho⟩ : ∃ off, offs[(x.toInt - lo).toNat]? = some off := ⟨_, Array.getElem?_eq_getElem q3⟩
      obtain ⟨g1, g2⟩ := q_sl_s (j := (x.toInt - lo).toNat) h2 (by rw [Array.getElem?_toList]; exact ho) (by omega)
      exact lv_tableIn hx hb hd q1 q2 ho (by omega) (hK _ _ _ _ _ _ _ g2 p e s m args below meth c H locs ls cx r hS hl)
  cases i with
  | iconst v => exact lv_iconst hx hb hd rfl (hn _ _ _ _ _ _ hi p e s m args below meth c H locs ls cx r hS hl)
  | bipush v => exact lv_bipush hx hb hd rfl (hn _ _ _ _ _ _ hi p e s m args below meth c H locs ls cx r hS hl)
  | sipush v => exact lv_sipush hx hb hd rfl (hn _ _ _ _ _ _ hi p e s m args below meth c H locs ls cx r hS hl)
  | lconst v => exact lv_lconst hx hb hd rfl (hn _ _ _ _ _ _ hi p e s m args below meth c H locs ls cx r hS hl)
  | ldc j => obtain ⟨v, h1, h2⟩ := q_op_s hi; exact lv_ldc hx hb hown (tb _ (q_ki_ok how h1)) hd (hn _ _ _ _ _ _ h2 p e s m args below meth c H locs ls cx r hS hl)
  | ldc_w j => obtain ⟨v, h1, h2⟩ := q_op_s hi; exact lv_ldcw hx hb hown (tb _ (q_ki_ok how h1)) hd (hn _ _ _ _ _ _ h2 p e s m args below meth c H locs ls cx r hS hl)
  | ldc2_w j => obtain ⟨v, h1, h2⟩ := q_op_s hi; exact lv_ldc2 hx hb hown (tb _ (q_kl_ok how h1)) hd (hn _ _ _ _ _ _ h2 p e s m args below meth c H locs ls cx r hS hl)
  | iload j => obtain ⟨v, h1, h2⟩ := q_li_s hi; exact lv_iload hx hb hd (hl.at h1) (hn _ _ _ _ _ _ h2 p e s m args below meth c H locs ls cx r hS hl)
  | iload_n j => obtain ⟨v, h1, h2⟩ := q_li_s hi; exact lv_iload_n hx hb hd rfl (hl.at h1) (hn _ _ _ _ _ _ h2 p e s m args below meth c H locs ls cx r hS hl)
  | lload j => obtain ⟨v, h1, h2⟩ := q_lj_s hi; exact lv_lload hx hb hd (hl.at h1) (hn _ _ _ _ _ _ h2 p e s m args below meth c H locs ls cx r hS hl)
  | lload_n j => obtain ⟨v, h1, h2⟩ := q_lj_s hi; exact lv_lload_n hx hb hd rfl (hl.at h1) (hn _ _ _ _ _ _ h2 p e s m args below meth c H locs ls cx r hS hl)
  | aload j => obtain ⟨v, h1, h2⟩ := q_la_s hi; exact lv_aload hx hb hd (hl.at h1) (hn _ _ _ _ _ _ h2 p e s m args below meth c H locs ls cx r hS hl)
  | aload_n j => obtain ⟨v, h1, h2⟩ := q_la_s hi; exact lv_aload_n hx hb hd rfl (hl.at h1) (hn _ _ _ _ _ _ h2 p e s m args below meth c H locs ls cx r hS hl)
  | istore j => obtain ⟨v, r', rfl, h2⟩ := q_i_s hi; exact lv_istore hx hb hd hl (of_decide_eq_true ht) rfl (fun ls hl => hn _ _ _ _ _ _ h2 p e s m args below meth c H locs ls cx r hS (q_lv.st1 hl))
  | istore_n j => obtain ⟨v, r', rfl, h2⟩ := q_i_s hi; exact lv_istore_n hx hb hd rfl hl (of_decide_eq_true ht) rfl (fun ls hl => hn _ _ _ _ _ _ h2 p e s m args below meth c H locs ls cx r hS (q_lv.st1 hl))
  | astore j => obtain ⟨v, r', rfl, h2⟩ := q_a_s hi; exact lv_astore hx hb hd hl (of_decide_eq_true ht) rfl (fun ls hl => hn _ _ _ _ _ _ h2 p e s m args below meth c H locs ls cx r hS (q_lv.st1 hl))
  | astore_n j => obtain ⟨v, r', rfl, h2⟩ := q_a_s hi; exact lv_astore_n hx hb hd rfl hl (of_decide_eq_true ht) rfl (fun ls hl => hn _ _ _ _ _ _ h2 p e s m args below meth c H locs ls cx r hS (q_lv.st1 hl))
  | lstore j => obtain ⟨v, r', rfl, h2⟩ := q_j_s hi; exact lv_lstore hx hb hd hl (of_decide_eq_true ht) rfl (fun ls hl => hn _ _ _ _ _ _ h2 p e s m args below meth c H locs ls cx r hS (q_lv.st2 hl))
  | lstore_n j => obtain ⟨v, r', rfl, h2⟩ := q_j_s hi; exact lv_lstore_n hx hb hd rfl hl (of_decide_eq_true ht) rfl (fun ls hl => hn _ _ _ _ _ _ h2 p e s m args below meth c H locs ls cx r hS (q_lv.st2 hl))
  | iinc j v =>
    obtain ⟨x, h1, h2⟩ := q_li_s hi
    obtain ⟨k', hk'⟩ := List.getElem?_of_mem ((q_pr_m lv 0 j (.int x)).mpr ⟨j, by omega, h1⟩)
    exact lv_iinc hx hb hd hl hk' rfl (of_decide_eq_true ht) rfl (fun ls hl => hn _ _ _ _ _ _ h2 p e s m args below meth c H locs ls cx r hS (q_lv.st1 hl))
  | iadd => obtain ⟨y, r1, rfl, h1⟩ := q_i_s hi; obtain ⟨x, r2, rfl, h2⟩ := q_i_s h1; exact lv_iadd hx hb hd (hn _ _ _ _ _ _ h2 p e s m args below meth c H locs ls cx r hS hl)
  | isub => obtain ⟨y, r1, rfl, h1⟩ := q_i_s hi; obtain ⟨x, r2, rfl, h2⟩ := q_i_s h1; exact lv_isub hx hb hd (hn _ _ _ _ _ _ h2 p e s m args below meth c H locs ls cx r hS hl)
  | imul => obtain ⟨y, r1, rfl, h1⟩ := q_i_s hi; obtain ⟨x, r2, rfl, h2⟩ := q_i_s h1; exact lv_imul hx hb hd (hn _ _ _ _ _ _ h2 p e s m args below meth c H locs ls cx r hS hl)
  | iand => obtain ⟨y, r1, rfl, h1⟩ := q_i_s hi; obtain ⟨x, r2, rfl, h2⟩ := q_i_s h1; exact lv_iand hx hb hd (hn _ _ _ _ _ _ h2 p e s m args below meth c H locs ls cx r hS hl)
  | ior => obtain ⟨y, r1, rfl, h1⟩ := q_i_s hi; obtain ⟨x, r2, rfl, h2⟩ := q_i_s h1; exact lv_ior hx hb hd (hn _ _ _ _ _ _ h2 p e s m args below meth c H locs ls cx r hS hl)
  | idiv => obtain ⟨y, r1, rfl, h1⟩ := q_i_s hi; obtain ⟨x, r2, rfl, h0, h2⟩ := q_i_s h1; exact lv_idiv hx hb hd h0 (hn _ _ _ _ _ _ h2 p e s m args below meth c H locs ls cx r hS hl)
  | irem => obtain ⟨y, r1, rfl, h1⟩ := q_i_s hi; obtain ⟨x, r2, rfl, h0, h2⟩ := q_i_s h1; exact lv_irem hx hb hd h0 (hn _ _ _ _ _ _ h2 p e s m args below meth c H locs ls cx r hS hl)
  | ineg => obtain ⟨x, r2, rfl, h2⟩ := q_i_s hi; exact lv_ineg hx hb hd (hn _ _ _ _ _ _ h2 p e s m args below meth c H locs ls cx r hS hl)
  | ishl => obtain ⟨y, r1, rfl, h1⟩ := q_i_s hi; obtain ⟨x, r2, rfl, h2⟩ := q_i_s h1; exact lv_ishl hx hb hd (hn _ _ _ _ _ _ h2 p e s m args below meth c H locs ls cx r hS hl)
  | ishr => obtain ⟨y, r1, rfl, h1⟩ := q_i_s hi; obtain ⟨x, r2, rfl, h2⟩ := q_i_s h1; exact lv_ishr hx hb hd (hn _ _ _ _ _ _ h2 p e s m args below meth c H locs ls cx r hS hl)
  | iushr => obtain ⟨y, r1, rfl, h1⟩ := q_i_s hi; obtain ⟨x, r2, rfl, h2⟩ := q_i_s h1; exact lv_iushr hx hb hd rfl (hn _ _ _ _ _ _ h2 p e s m args below meth c H locs ls cx r hS hl)
  | ladd => obtain ⟨y, r1, rfl, h1⟩ := q_j_s hi; obtain ⟨x, r2, rfl, h2⟩ := q_j_s h1; exact lv_ladd hx hb hd (hn _ _ _ _ _ _ h2 p e s m args below meth c H locs ls cx r hS hl)
  | lsub => obtain ⟨y, r1, rfl, h1⟩ := q_j_s hi; obtain ⟨x, r2, rfl, h2⟩ := q_j_s h1; exact lv_lsub hx hb hd (hn _ _ _ _ _ _ h2 p e s m args below meth c H locs ls cx r hS hl)
  | lmul => obtain ⟨y, r1, rfl, h1⟩ := q_j_s hi; obtain ⟨x, r2, rfl, h2⟩ := q_j_s h1; exact lv_lmul hx hb hd (hn _ _ _ _ _ _ h2 p e s m args below meth c H locs ls cx r hS hl)
  | land => obtain ⟨y, r1, rfl, h1⟩ := q_j_s hi; obtain ⟨x, r2, rfl, h2⟩ := q_j_s h1; exact lv_land hx hb hd (hn _ _ _ _ _ _ h2 p e s m args below meth c H locs ls cx r hS hl)
  | lor => obtain ⟨y, r1, rfl, h1⟩ := q_j_s hi; obtain ⟨x, r2, rfl, h2⟩ := q_j_s h1; exact lv_lor hx hb hd (hn _ _ _ _ _ _ h2 p e s m args below meth c H locs ls cx r hS hl)
  | ldiv => obtain ⟨y, r1, rfl, h1⟩ := q_j_s hi; obtain ⟨x, r2, rfl, h0, h2⟩ := q_j_s h1; exact lv_ldiv hx hb hd h0 (hn _ _ _ _ _ _ h2 p e s m args below meth c H locs ls cx r hS hl)
  | lrem => obtain ⟨y, r1, rfl, h1⟩ := q_j_s hi; obtain ⟨x, r2, rfl, h0, h2⟩ := q_j_s h1; exact lv_lrem hx hb hd h0 (hn _ _ _ _ _ _ h2 p e s m args below meth c H locs ls cx r hS hl)
  | lneg => obtain ⟨x, r2, rfl, h2⟩ := q_j_s hi; exact lv_lneg hx hb hd (hn _ _ _ _ _ _ h2 p e s m args below meth c H locs ls cx r hS hl)
  | lshl => obtain ⟨y, r1, rfl, h1⟩ := q_i_s hi; obtain ⟨x, r2, rfl, h2⟩ := q_j_s h1; exact lv_lshl hx hb hd rfl (hn _ _ _ _ _ _ h2 p e s m args below meth c H locs ls cx r hS hl)
  | lshr => obtain ⟨y, r1, rfl, h1⟩ := q_i_s hi; obtain ⟨x, r2, rfl, h2⟩ := q_j_s h1; exact lv_lshr hx hb hd rfl (hn _ _ _ _ _ _ h2 p e s m args below meth c H locs ls cx r hS hl)
  | lcmp => obtain ⟨y, r1, rfl, h1⟩ := q_j_s hi; obtain ⟨x, r2, rfl, h2⟩ := q_j_s h1; exact W.lcmp hx hb hd (hn _ _ _ _ _ _ h2 p e s m args below meth c H locs ls cx r hS hl)
  | i2l => obtain ⟨x, r2, rfl, h2⟩ := q_i_s hi; exact lv_i2l hx hb hd rfl (hn _ _ _ _ _ _ h2 p e s m args below meth c H locs ls cx r hS hl)
  | l2i => obtain ⟨x, r2, rfl, h2⟩ := q_j_s hi; exact lv_l2i hx hb hd rfl (hn _ _ _ _ _ _ h2 p e s m args below meth c H locs ls cx r hS hl)
  | i2b => obtain ⟨x, r2, rfl, h2⟩ := q_i_s hi; exact lv_i2b hx hb hd rfl (hn _ _ _ _ _ _ h2 p e s m args below meth c H locs ls cx r hS hl)
  | i2s => obtain ⟨x, r2, rfl, h2⟩ := q_i_s hi; exact lv_i2s hx hb hd rfl (hn _ _ _ _ _ _ h2 p e s m args below meth c H locs ls cx r hS hl)
  | dup => obtain ⟨x, r2, rfl, h1, h2⟩ := q_v_s hi; exact lv_dup hx hb hd h1 (hn _ _ _ _ _ _ h2 p e s m args below meth c H locs ls cx r hS hl)
  | dup2 => obtain ⟨x, r2, rfl, h1⟩ := q_v_s hi; obtain ⟨y, r3, rfl, h2, h3, h4⟩ := q_v_s h1; exact lv_dup2_11 hx hb hd h2 h3 (hn _ _ _ _ _ _ h4 p e s m args below meth c H locs ls cx r hS hl)
  | pop => obtain ⟨x, r2, rfl, h1, h2⟩ := q_v_s hi; exact lv_pop hx hb hd h1 (hn _ _ _ _ _ _ h2 p e s m args below meth c H locs ls cx r hS hl)
  | pop2 => obtain ⟨x, r2, rfl, h2⟩ := q_j_s hi; exact lv_pop2_2 hx hb hd rfl (hn _ _ _ _ _ _ h2 p e s m args below meth c H locs ls cx r hS hl)
  | goto o => exact lv_goto hx hb hd (of_decide_eq_true ht) (hK _ _ _ _ _ _ _ hi p e s m args below meth c H locs ls cx r hS hl)
  | ifCond cd o =>
    cases cd with
    | eq => obtain ⟨x, r2, rfl, h1, h2⟩ := q_i_s hi; exact lv_if_eq hx hb hd (of_decide_eq_true ht) (fun q => hK _ _ _ _ _ _ _ (h1 q) p e s m args below meth c H locs ls cx r hS hl) (fun q => hn _ _ _ _ _ _ (h2 q) p e s m args below meth c H locs ls cx r hS hl)
    | ne => obtain ⟨x, r2, rfl, h1, h2⟩ := q_i_s hi; exact lv_if_ne hx hb hd (of_decide_eq_true ht) (fun q => hK _ _ _ _ _ _ _ (h2 q) p e s m args below meth c H locs ls cx r hS hl) (fun q => hn _ _ _ _ _ _ (h1 q) p e s m args below meth c H locs ls cx r hS hl)
    | lt => obtain ⟨x, r2, rfl, h1, h2⟩ := q_i_s hi; exact lv_if_lt hx hb hd (of_decide_eq_true ht) (fun q => hK _ _ _ _ _ _ _ (h1 q) p e s m args below meth c H locs ls cx r hS hl) (fun q => hn _ _ _ _ _ _ (h2 q) p e s m args below meth c H locs ls cx r hS hl)
    | ge => obtain ⟨x, r2, rfl, h1, h2⟩ := q_i_s hi; exact lv_if_ge hx hb hd (of_decide_eq_true ht) (fun q => hK _ _ _ _ _ _ _ (h1 q) p e s m args below meth c H locs ls cx r hS hl) (fun q => hn _ _ _ _ _ _ (h2 q) p e s m args below meth c H locs ls cx r hS hl)
    | gt => obtain ⟨x, r2, rfl, h1, h2⟩ := q_i_s hi; exact lv_if_gt hx hb hd (of_decide_eq_true ht) (fun q => hK _ _ _ _ _ _ _ (h1 q) p e s m args below meth c H locs ls cx r hS hl) (fun q => hn _ _ _ _ _ _ (h2 q) p e s m args below meth c H locs ls cx r hS hl)
    | le => obtain ⟨x, r2, rfl, h1, h2⟩ := q_i_s hi; exact lv_if_le hx hb hd (of_decide_eq_true ht) (fun q => hK _ _ _ _ _ _ _ (h1 q) p e s m args below meth c H locs ls cx r hS hl) (fun q => hn _ _ _ _ _ _ (h2 q) p e s m args below meth c H locs ls cx r hS hl)
  | if_icmp cd o =>
    cases cd with
    | eq => obtain ⟨y, r1, rfl, h0⟩ := q_i_s hi; obtain ⟨x, r2, rfl, h1, h2⟩ := q_i_s h0; exact lv_icmp_eq hx hb hd (of_decide_eq_true ht) (fun q => hK _ _ _ _ _ _ _ (h1 q) p e s m args below meth c H locs ls cx r hS hl) (fun q => hn _ _ _ _ _ _ (h2 q) p e s m args below meth c H locs ls cx r hS hl)
    | ne => obtain ⟨y, r1, rfl, h0⟩ := q_i_s hi; obtain ⟨x, r2, rfl, h1, h2⟩ := q_i_s h0; exact lv_icmp_ne hx hb hd (of_decide_eq_true ht) (fun q => hK _ _ _ _ _ _ _ (h2 q) p e s m args below meth c H locs ls cx r hS hl) (fun q => hn _ _ _ _ _ _ (h1 q) p e s m args below meth c H locs ls cx r hS hl)
    | lt => obtain ⟨y, r1, rfl, h0⟩ := q_i_s hi; obtain ⟨x, r2, rfl, h1, h2⟩ := q_i_s h0; exact lv_icmp_lt hx hb hd (of_decide_eq_true ht) (fun q => hK _ _ _ _ _ _ _ (h1 q) p e s m args below meth c H locs ls cx r hS hl) (fun q => hn _ _ _ _ _ _ (h2 q) p e s m args below meth c H locs ls cx r hS hl)
    | ge => obtain ⟨y, r1, rfl, h0⟩ := q_i_s hi; obtain ⟨x, r2, rfl, h1, h2⟩ := q_i_s h0; exact lv_icmp_ge hx hb hd (of_decide_eq_true ht) (fun q => hK _ _ _ _ _ _ _ (h1 q) p e s m args below meth c H locs ls cx r hS hl) (fun q => hn _ _ _ _ _ _ (h2 q) p e s m args below meth c H locs ls cx r hS hl)
    | gt => obtain ⟨y, r1, rfl, h0⟩ := q_i_s hi; obtain ⟨x, r2, rfl, h1, h2⟩ := q_i_s h0; exact lv_icmp_gt hx hb hd (of_decide_eq_true ht) (fun q => hK _ _ _ _ _ _ _ (h1 q) p e s m args below meth c H locs ls cx r hS hl) (fun q => hn _ _ _ _ _ _ (h2 q) p e s m args below meth c H locs ls cx r hS hl)
    | le => obtain ⟨y, r1, rfl, h0⟩ := q_i_s hi; obtain ⟨x, r2, rfl, h1, h2⟩ := q_i_s h0; exact lv_icmp_le hx hb hd (of_decide_eq_true ht) (fun q => hK _ _ _ _ _ _ _ (h1 q) p e s m args below meth c H locs ls cx r hS hl) (fun q => hn _ _ _ _ _ _ (h2 q) p e s m args below meth c H locs ls cx r hS hl)
  | getfield j =>
    obtain ⟨⟨ci, kf, b⟩, h1, h2⟩ := q_op_s hi
    obtain ⟨a, r2, rfl, h3⟩ := q_a_s h2
    obtain ⟨fs, h4, h5⟩ := q_ob_s h3
    obtain ⟨v, h6, h7⟩ := q_nth_s h5
    obtain ⟨C, T, N, hc, hk, hl0, hl1⟩ := q_fl_ok how h1
    exact q_getf hx hb hts hTs hown hKx.1 hKx.2.1 r h4 hc hk hl0 hl1 h6 hd (hn _ _ _ _ _ _ h7 p e s m args below meth c H locs ls cx r hS hl)
  | putfield j =>
    obtain ⟨⟨ci, kf, b⟩, h1, h2⟩ := q_op_s hi
    obtain ⟨v, r1, rfl, h2⟩ := q_v_s h2
    obtain ⟨a, r2, rfl, h3⟩ := q_a_s h2
    obtain ⟨fs, h4, h5, h6, h7⟩ := q_ob_s h3
    obtain ⟨C, T, N, hc, hk, hl0, hl1⟩ := q_fl_ok how h1
    refine q_put hx hb hts hTs hown hKx.1 hKx.2.1 r hS h4 hc hk hl0 hl1 (fun hf => ?_) h6 h5 hd (fun H1 locs1 r1 hS1 => hn _ _ _ _ _ _ h7 p e s m args below meth c H1 locs1 ls cx r1 hS1 hl)
    unfold q_fin at hfn
    dsimp only at hfn
    rw [h1] at hfn
    dsimp only at hfn
    rw [hc] at hfn
    dsimp only at hfn
    rw [if_pos hf] at hfn
    simp only [Bool.and_eq_true, Bool.not_eq_true', decide_eq_true_eq] at hfn
    exact ⟨hfn.1.1, by rw [hnm]; exact hfn.1.2, hfn.2⟩
  | iaload =>
    obtain ⟨i, r1, rfl, h1⟩ := q_i_s hi; obtain ⟨a, r2, rfl, h2⟩ := q_a_s h1; obtain ⟨mm, g, h3, h4, h5⟩ := q_ri_s h2
    exact va_iald (D := G.1) hx hb hKx.1 (r.one h3) 0 0 rfl rfl h4 hd (hn _ _ _ _ _ _ h5 p e s m args below meth c H locs ls cx r hS hl)
  | iastore =>
    obtain ⟨x, r0, rfl, h0⟩ := q_i_s hi; obtain ⟨i, r1, rfl, h1⟩ := q_i_s h0; obtain ⟨a, r2, rfl, h2⟩ := q_a_s h1; obtain ⟨mm, g, h3, h4, h5⟩ := q_ri_s h2
    exact q_iast hx hb hKx.1 r hS h3 h4 hd (fun H1 locs1 r1 hS1 => hn _ _ _ _ _ _ h5 p e s m args below meth c H1 locs1 ls cx r1 hS1 hl)
  | baload =>
    obtain ⟨i, r1, rfl, h1⟩ := q_i_s hi; obtain ⟨a, r2, rfl, h2⟩ := q_a_s h1; obtain ⟨t, mm, g, h3, ht, h4, h5⟩ := q_rb_s h2
    rcases ht with rfl | rfl
    · exact va_bald (D := G.1) hx hb hKx.1 (r.one h3) 0 1 rfl rfl h4 hd (hn _ _ _ _ _ _ h5 p e s m args below meth c H locs ls cx r hS hl)
    · exact va_zald (D := G.1) hx hb hKx.1 (r.one h3) 0 3 rfl rfl h4 hd (hn _ _ _ _ _ _ h5 p e s m args below meth c H locs ls cx r hS hl)
  | bastore =>
    obtain ⟨x, r0, rfl, h0⟩ := q_i_s hi; obtain ⟨i, r1, rfl, h1⟩ := q_i_s h0; obtain ⟨a, r2, rfl, h2⟩ := q_a_s h1; obtain ⟨t, mm, g, h3, ht, h4, h5⟩ := q_rb_s h2
    exact q_bast hx hb hKx.1 r hS ht h3 h4 hd (fun H1 locs1 r1 hS1 => hn _ _ _ _ _ _ h5 p e s m args below meth c H1 locs1 ls cx r1 hS1 hl)
  | laload =>
    obtain ⟨i, r1, rfl, h1⟩ := q_i_s hi; obtain ⟨a, r2, rfl, h2⟩ := q_a_s h1; obtain ⟨mm, g, h3, h4, h5⟩ := q_rl_s h2
    exact va_lald (D := G.1) hx hb hKx.1 (r.one h3) 0 2 rfl rfl h4 hd (hn _ _ _ _ _ _ h5 p e s m args below meth c H locs ls cx r hS hl)
  | lastore =>
    obtain ⟨x, r0, rfl, h0⟩ := q_j_s hi; obtain ⟨i, r1, rfl, h1⟩ := q_i_s h0; obtain ⟨a, r2, rfl, h2⟩ := q_a_s h1; obtain ⟨mm, g, h3, h4, h5⟩ := q_rl_s h2
    exact q_last hx hb hKx.1 r hS h3 h4 hd (fun H1 locs1 r1 hS1 => hn _ _ _ _ _ _ h5 p e s m args below meth c H1 locs1 ls cx r1 hS1 hl)
  | aaload =>
    obtain ⟨i, r1, rfl, h1⟩ := q_i_s hi; obtain ⟨a, r2, rfl, h2⟩ := q_a_s h1; obtain ⟨mm, g, h3, h4, h5⟩ := q_rq_s h2
    exact va_aldq (D := G.1) (C := "FontOutlines$Part") hx hb hKx.1 (r.one h3) 0 4 rfl rfl h4 hd (hn _ _ _ _ _ _ h5 p e s m args below meth c H locs ls cx r hS hl)
  | aastore =>
    obtain ⟨v, r0, rfl, h0⟩ := q_a_s hi; obtain ⟨i, r1, rfl, h1⟩ := q_i_s h0; obtain ⟨a, r2, rfl, h2⟩ := q_a_s h1; obtain ⟨mm, g, h3, h4, h5⟩ := q_rq_s h2
    obtain ⟨vs, h6, h7⟩ := q_ob_s h5
    exact q_aast hx hb hKx.1 r hS h3 h6 h4 hd (fun H1 locs1 r1 hS1 => hn _ _ _ _ _ _ h7 p e s m args below meth c H1 locs1 ls cx r1 hS1 hl)
  | arraylength =>
    obtain ⟨a, r2, rfl, h2⟩ := q_a_s hi; obtain ⟨t, x, h3, h4, h5⟩ := q_ry_s h2
    exact va_alen (D := G.1) hx hb hKx.1 (r.one h3) 0 t rfl (q_tys_at G h4) rfl hd (hn _ _ _ _ _ _ h5 p e s m args below meth c H locs ls cx r hS hl)
  | new j =>
    obtain ⟨ci, h1, h2⟩ := q_op_s hi; obtain ⟨⟨C, T, N⟩, h3, h4, h5, h6⟩ := q_op_s h2
    exact q_newo hx hb hts hTs hown hKx.1 hB r hS h3 (q_cn_ok how h1 h3) h4 h5 hd (fun H1 r1 hS1 => hn _ _ _ _ _ _ h6 p e s m args below meth c H1 locs ls cx r1 hS1 hl)
  | newarray ty =>
    obtain ⟨kd, h1, h2⟩ := q_op_s hi; obtain ⟨x, r2, rfl, h3, h3', h4, h5, h6⟩ := q_i_s h2
    exact q_newa hx hb h1 hts hTs hKx.1 hB r hS h3 h3' h4 h5 hd (fun H1 r1 hS1 => hn _ _ _ _ _ _ h6 p e s m args below meth c H1 locs ls cx r1 hS1 hl)
  | invokevirtual j =>
    obtain ⟨⟨na, M', kd⟩, h1, h2, h3⟩ := q_op_s hi
    dsimp only at h2
    subst h2
    obtain ⟨bs, r2, hbs, rfl, h4⟩ := q_ags_s h3
    rw [List.append_nil] at h4
    obtain ⟨b, r3, rfl, hcat, h5⟩ := q_a_s h4
    obtain ⟨fs, h6, h7⟩ := q_ob_s h5
    obtain ⟨d', rfl, mc', ms', h8, h9, h10⟩ := q_dn_s h7
    obtain ⟨hM, hpd, ⟨w1, w2, w3, w4⟩, -⟩ := q_ml_ok how h1
    obtain ⟨m1, m2, m3, m4, m5⟩ := q_okM_s hM
    have hcw : CallW (q_rm (d' + 1) mc ms) s args (q_y M).cls (q_y M').cls j (q_y M') (q_b M') (q_ln M') (q_r M') (q_ws M') (q_rm d' mc' ms') mc' ms' na :=
      ⟨callB_of na hts (q_good m1) rfl rfl rfl (tb _ w4) (tb _ w1) ⟨m5.1, m5.2, hpd⟩ ⟨Nat.le_refl _, by show 8 + (q_ln M' + 11) + 64 * d' ≤ 64 * (d' + 1); omega⟩, tb _ w2, tb _ w3⟩
    obtain ⟨rr, hrr, cell, q1, q2, q3, -⟩ := (r.2 b _ h6).2
    have hcls := (hKx.1.1 M'.1 rr hrr).2.1
    have hrc : rr.1 = (q_y M').cls := by
      have h1' : q_ow[M'.1]? = some rr.1 := by
        have : ∀ (ci : Nat) (x : vw_C), q_cl[ci]? = some x → q_ow[ci]? = some x.1 := by
          intro ci x hx
          match ci, hx with
          | 0, hx => cases hx; rfl
          | 1, hx => cases hx; rfl
          | 2, hx => cases hx; rfl
          | 3, hx => cases hx; rfl
          | 4, hx => cases hx; rfl
          | 5, hx => cases hx; rfl
          | 6, hx => cases hx; rfl
          | 7, hx => cases hx; rfl
          | 8, hx => cases hx; rfl
          | ci + 9, hx => cases hx
        exact this _ _ hrr
      exact Option.some.inj (h1'.symm.trans m2)
    refine q_after (va_runV (As := bs) (rest := r3) ⟨hx, hb, hml, hown, hts⟩ h10 hcw ⟨q_blind G h n _, ⟨cell, q1, by rw [q3]; rfl, by rw [← hrc, q2]; exact hcls⟩, q_pre hKx r hS _⟩ rfl hbs hl.1 rfl (by show 2 * 0 + _ ≤ 8; rw [q_cat_e]; omega) hd ⟨h8, h9⟩) hS (fun v h1 n1 H1 locs1 r1 hq hS1 => hn _ _ _ _ _ _ hq p e s m args below meth c H1 locs1 ls cx r1 hS1 hl)
  | invokespecial j =>
    unfold q_ins at hi
    dsimp only at hi
    by_cases ho : q_oi M.1 j = true
    · rw [if_pos ho] at hi
      obtain ⟨b, r3, rfl, hcat, h5⟩ := q_a_s hi
      obtain ⟨d', rfl, h6⟩ := q_dn_s h5
      exact W.objInit hx hb hown (tb _ (q_oi_ok how ho)) (tb _ q_oIn) (tb _ q_oCo) rfl (by rw [hml]; exact hl.1) rfl hd (by show 1 ≤ d' + 1; omega) (by show 2 * 0 + _ + 12 ≤ 64 * (d' + 1); rw [q_cat_e]; omega) (hn _ _ _ _ _ _ h6 p e s m args below meth c H locs ls cx r hS hl)
    · rw [if_neg ho] at hi
      obtain ⟨⟨na, M', kd⟩, h1, h2, h3⟩ := q_op_s hi
      dsimp only at h2
      subst h2
      obtain ⟨bs, r2, hbs, rfl, h4⟩ := q_ags_s h3
      rw [List.append_nil] at h4
      obtain ⟨b, r3, rfl, hcat, h7⟩ := q_a_s h4
      obtain ⟨d', rfl, mc', ms', h8, h9, h10⟩ := q_dn_s h7
      obtain ⟨hM, hpd, ⟨w1, w2, w3, w4⟩, hrn⟩ := q_ml_ok how h1
      obtain ⟨m1, m2, m3, m4, m5⟩ := q_okM_s hM
      have hrn := hrn rfl
      have hcb := callB_of (R := q_rm (d' + 1) mc ms) (own := (q_y M).cls) (rm := q_rm d' mc' ms') (mc := mc') (ms := ms') na hts (q_good m1) rfl rfl rfl (tb _ w3) (tb _ w1) ⟨m5.1, m5.2, hpd⟩ ⟨Nat.le_refl _, by show 8 + (q_ln M' + 11) + 64 * d' ≤ 64 * (d' + 1); omega⟩
      rw [hrn] at hcb
      refine q_after (va_runI (As := bs) (rest := r3) ⟨hx, hb, hml, hown, hts⟩ h10 ⟨hcb, w4, tb _ w2⟩ ⟨q_blind G h n _, q_pre hKx r hS _⟩ rfl hbs hl.1 rfl (by show 2 * 0 + _ ≤ 8; rw [q_cat_e]; omega) hd ⟨h8, h9⟩) hS (fun v h1 n1 H1 locs1 r1 hq hS1 => hn _ _ _ _ _ _ hq p e s m args below meth c H1 locs1 ls cx r1 hS1 hl)
  | anewarray j =>
    obtain ⟨x, r2, rfl, h1, h3, h3', h4, h5, h6⟩ := q_i_s hi
    exact q_newq hx hb hts hTs hown (q_an_ok how h1) hKx.2.1.2 hKx.1 hB r hS h3 h3' h4 h5 hd (fun H1 r1 hS1 => hn _ _ _ _ _ _ h6 p e s m args below meth c H1 locs ls cx r1 hS1 hl)
  | invokestatic j =>
    unfold q_ins at hi
    dsimp only at hi
    by_cases hac : q_ac M.1 j = true
    · rw [if_pos hac] at hi
      obtain ⟨nn, r1, rfl, h1⟩ := q_i_s hi; obtain ⟨dp, r2, rfl, h2⟩ := q_i_s h1; obtain ⟨a, r3, rfl, h3⟩ := q_a_s h2; obtain ⟨sp, r4, rfl, h4⟩ := q_i_s h3; obtain ⟨a0, r5, rfl, hcat, h5⟩ := q_a_s h4
      obtain ⟨n0, f, g1, h6⟩ := q_ri_s h5; obtain ⟨n1, g, g2, k1, k2, k3, k4, k5, k6, h7⟩ := q_ri_s h6
      obtain ⟨d', rfl, h8⟩ := q_dn_s h7
      exact q_copy hx hb (by rw [hml]; exact hl.1.symm) hts hTs hown (q_ac_ok how hac) hKx.1 r hS g1 g2 k1 k2 k3 k4 k5 k6 (by show 1 ≤ d' + 1; omega) (by show _ + _ ≤ 64 * (d' + 1); rw [q_cat_e]; have := q_nfw; omega) hd (fun H1 locs1 r1 hS1 => hn _ _ _ _ _ _ h8 p e s m args below meth c H1 locs1 ls cx r1 hS1 hl)
    rw [if_neg hac] at hi
    cases hm : q_mm M.1 j with
    | some b =>
      rw [hm] at hi
      dsimp only at hi
      obtain ⟨y, r1, rfl, h1⟩ := q_i_s hi; obtain ⟨x, r2, rfl, hcat, hkc, hks, h2⟩ := q_i_s h1
      obtain ⟨d', rfl, h3⟩ := q_dn_s h2
      have hw := q_mm_ok how hm
      cases b with
      | true => exact va_mmax hx hb (by rw [hml]; exact hl.1.symm) hown (tb _ hw) (tb _ q_st_max) (tb _ q_in_Math) (tb _ q_co_max) (by show 1 ≤ d' + 1; omega) (by show _ + 13 ≤ 64 * (d' + 1); rw [q_cat_e]; omega) hkc hks hd (hn _ _ _ _ _ _ h3 p e s m args below meth c H locs ls cx r hS hl)
      | false => exact va_mmin hx hb (by rw [hml]; exact hl.1.symm) hown (tb _ hw) (tb _ q_st_min) (tb _ q_in_Math) (tb _ q_co_min) (by show 1 ≤ d' + 1; omega) (by show _ + 13 ≤ 64 * (d' + 1); rw [q_cat_e]; omega) hkc hks hd (hn _ _ _ _ _ _ h3 p e s m args below meth c H locs ls cx r hS hl)
    | none =>
      rw [hm] at hi
      dsimp only at hi
      obtain ⟨⟨na, M', kd⟩, h1, h2, h3⟩ := q_op_s hi
      dsimp only at h2
      subst h2
      obtain ⟨bs, r2, hbs, rfl, h4⟩ := q_ags_s h3
      rw [List.append_nil] at h4
      obtain ⟨hcat, h7⟩ := h4
      obtain ⟨d', rfl, mc', ms', h8, h9, h10⟩ := q_dn_s h7
      obtain ⟨hM, hpd, ⟨w1, w2, w3⟩, -⟩ := q_ml_ok how h1
      obtain ⟨m1, m2, m3, m4, m5⟩ := q_okM_s hM
      have hcb := callB_of (R := q_rm (d' + 1) mc ms) (own := (q_y M).cls) (rm := q_rm d' mc' ms') (mc := mc') (ms := ms') na hts (q_good m1) rfl rfl rfl (tb _ w3) (tb _ w1) ⟨m5.1, m5.2, hpd⟩ ⟨Nat.le_refl _, by show 8 + (q_ln M' + 11) + 64 * d' ≤ 64 * (d' + 1); omega⟩
      refine q_after (va_runS (As := bs) (rest := r2) ⟨hx, hb, hml, hown, hts⟩ h10 ⟨hcb, tb _ w2⟩ ⟨q_blind G h n _, q_pre hKx r hS _⟩ rfl hbs hl.1 rfl (by show 2 * 0 + _ ≤ 8; rw [q_cat_e]; omega) hd ⟨h8, h9⟩) hS (fun v h1 n1 H1 locs1 r1 hq hS1 => hn _ _ _ _ _ _ hq p e s m args below meth c H1 locs1 ls cx r1 hS1 hl)
  | ireturn =>
    obtain ⟨x, r1, rfl, rfl, h1⟩ := q_i_s hi; obtain ⟨ty, h2, h3, h4, h5, h6⟩ := q_op_s h1
    refine W.widen h4 h5 ?_
    exact W.zret hx hb (by rw [hr]; exact h2) h3 (fun t ht hW => ⟨_, h, n, rfl, by rw [ht]; exact r, h6, hS.F ht⟩) hS.2.2 hd hlk
  | lreturn =>
    obtain ⟨x, r1, rfl, rfl, h2, h4, h5, h6⟩ := q_j_s hi
    refine W.widen h4 h5 ?_
    exact W.lret hx hb (by rw [hr]; exact h2) (fun t ht hW => ⟨_, h, n, rfl, by rw [ht]; exact r, h6, hS.F ht⟩) hS.2.2 hd hlk
  | areturn =>
    obtain ⟨x, r1, rfl, rfl, h1⟩ := q_a_s hi; obtain ⟨ty, h2, h3, h4, h5, h6⟩ := q_op_s h1
    refine W.widen h4 h5 ?_
    exact W.aret hx hb (by rw [hr]; exact h2) h3 (Or.inr ⟨x, rfl⟩) (fun t ht hW => ⟨_, h, n, rfl, by rw [ht]; exact r, h6, hS.F ht⟩) hS.2.2 hd hlk
  | return_ =>
    obtain ⟨rfl, h2, h4, h5, h6⟩ := hi
    refine W.widen h4 h5 ?_
    exact W.vret hx hb (by rw [hr]; exact h2) (fun t ht hW => ⟨_, h, n, rfl, by rw [ht]; exact r, h6, hS.F ht⟩) hS.2.2 hd hlk
  | tableswitch _ _ _ _ => cases hnt
  | _ => exact hi.elim
/-- a block of instructions, each with its place and its jump -/
def q_blk (G : q_G) (l : Launch) (M : q_MT) (d mc ms : Nat) (Q : q_P) (K : Nat → q_C) (e : Nat) : List (Instr × Nat × Nat) → q_C
  | [] => K e
  | x :: r => q_ins G l M d mc ms Q K x.1 x.2.1 x.2.2 (q_blk G l M d mc ms Q K e r)
def q_end : Instr → Bool
  | .tableswitch _ _ _ _ => true
  | .goto _ => true
  | .ireturn => true
  | .lreturn => true
  | .areturn => true
  | .return_ => true
  | .athrow => true
  | _ => false
/-- the code holds the block from pc on -/
def q_okB (M : q_MT) (e : Nat) : Nat → List (Instr × Nat × Nat) → Bool
  | pc, [] => pc == e
  | pc, (i, q, t) :: r => q == pc && (match decode (q_b M) pc with
    | .ok (j, ln) => decide (i = j) && (q_isT i || ln == q_len i) && q_tg (q_ln M) i pc t && q_fin M i && (q_end i || q_okB M e (pc + ln) r)
    | _ => false)
theorem q_blk_s {G : q_G} {l : Launch} {M : q_MT} {d mc ms : Nat} {Q : q_P} {K : Nat → q_C} {e : Nat} (hK : ∀ t lv st h n k sl, K t lv st h n k sl → q_Z G l M d mc ms Q t lv st h n k sl) :
    ∀ (b : List (Instr × Nat × Nat)) (pc : Nat), q_okB M e pc b = true → ∀ lv st h n k sl, q_blk G l M d mc ms Q K e b lv st h n k sl → q_Z G l M d mc ms Q pc lv st h n k sl
  | [], pc, ok, lv, st, h, n, k, sl, hh => by
    simp only [q_okB, beq_iff_eq] at ok
    subst ok
    exact hK _ _ _ _ _ _ _ hh
  | (i, q, t) :: r, pc, ok, lv, st, h, n, k, sl, hh => by
    simp only [q_okB, Bool.and_eq_true, beq_iff_eq] at ok
    obtain ⟨rfl, ok⟩ := ok
    cases hdc : decode (q_b M) q with
    | error _ => rw [hdc] at ok; cases ok
    | ok x =>
      obtain ⟨j, ln⟩ := x
      rw [hdc] at ok
      simp only [Bool.and_eq_true, decide_eq_true_eq] at ok
      obtain ⟨⟨⟨⟨rfl, o1⟩, o2⟩, o3⟩, o4⟩ := ok
      refine q_sd ln hdc ?_ o2 o3 hK (nx := if q_end i = true then fun _ _ _ _ _ _ => False else q_blk G l M d mc ms Q K e r) ?_ lv st h n k sl ?_
      · cases hT : q_isT i with
        | true => left; cases i <;> first | exact ⟨_, _, _, _, rfl⟩ | cases hT
        | false => right; rw [hT, Bool.false_or] at o1; exact ⟨rfl, beq_iff_eq.mp o1⟩
      · intro lv st h n k sl hx
        rw [Bool.or_eq_true] at o4
        rcases o4 with o4 | o4
        · rw [if_pos o4] at hx; exact hx.elim
        · by_cases he : q_end i = true
          · rw [if_pos he] at hx; exact hx.elim
          · rw [if_neg he] at hx; exact q_blk_s hK r _ o4 lv st h n k sl hx
      · have hh : q_ins G l M d mc ms Q K i q t (q_blk G l M d mc ms Q K e r) lv st h n k sl := hh
        cases i <;> first | exact hh | skip
def q_bk (B : q_B) (pc : Nat) : Option (List (Instr × Nat × Nat) × Nat) := (B.find? (fun x => x.1 == pc)).map (fun x => x.2)
def q_okC (M : q_MT) (B : q_B) : Bool := B.all (fun x => q_okB M x.2.2 x.1 x.2.1)
/-- on over the blocks, up to the places in S -/
def q_go (G : q_G) (l : Launch) (M : q_MT) (d mc ms : Nat) (Q : q_P) (B : q_B) (S : List Nat) : Nat → Nat → q_C
  | 0, pc => q_Z G l M d mc ms Q pc
  | f + 1, pc => fun lv st h n k sl => if S.contains pc = true then q_Z G l M d mc ms Q pc lv st h n k sl else q_op (q_bk B pc) fun b => q_blk G l M d mc ms Q (q_go G l M d mc ms Q B S f) b.2 b.1 lv st h n k sl
theorem q_bk_ok {M : q_MT} {B : q_B} (hB : q_okC M B = true) {pc : Nat} {b : List (Instr × Nat × Nat) × Nat} (h : q_bk B pc = some b) : q_okB M b.2 pc b.1 = true := by
  unfold q_bk at h
  cases hf : B.find? (fun x => x.1 == pc) with
  | none => rw [hf] at h; cases h
  | some x =>
    rw [hf] at h
    have h1 := List.find?_some hf
    have h2 := List.mem_of_find?_eq_some hf
    simp only [beq_iff_eq] at h1
    simp only [Option.map_some, Option.some.injEq] at h
    subst h; subst h1
    exact List.all_eq_true.mp hB x h2
theorem q_go_s {G : q_G} {l : Launch} {M : q_MT} {d mc ms : Nat} {Q : q_P} {B : q_B} (hB : q_okC M B = true) (S : List Nat) : ∀ (f pc : Nat) lv st h n k sl, q_go G l M d mc ms Q B S f pc lv st h n k sl → q_Z G l M d mc ms Q pc lv st h n k sl
  | 0, pc, lv, st, h, n, k, sl, hh => hh
  | f + 1, pc, lv, st, h, n, k, sl, hh => by
    unfold q_go at hh
    by_cases hs : S.contains pc = true
    · rw [if_pos hs] at hh; exact hh
    · rw [if_neg hs] at hh
      obtain ⟨b, h1, h2⟩ := q_op_s hh
      exact q_blk_s (q_go_s hB S f) b.1 pc (q_bk_ok hB h1) lv st h n k sl h2
/-- from a place on, over its block, up to the places in S -/
theorem q_at {G : q_G} {l : Launch} {M : q_MT} {d mc ms : Nat} {Q : q_P} {B : q_B} (hB : q_okC M B = true) (S : List Nat) (f : Nat) {pc : Nat} {b : List (Instr × Nat × Nat) × Nat} (hb : q_bk B pc = some b) {lv : q_L} {st : List Value} {h : q_H} {n k sl : Nat} (hh : q_blk G l M d mc ms Q (q_go G l M d mc ms Q B S f) b.2 b.1 lv st h n k sl) : q_Z G l M d mc ms Q pc lv st h n k sl :=
  q_blk_s (q_go_s hB S f) b.1 pc (q_bk_ok hB hb) lv st h n k sl hh
/-- a method by its body -/
theorem q_in {G : q_G} {l : Launch} {M : q_MT} {d mc ms : Nat} {Q : q_P} {As : List Value} {h : q_H} {n : Nat} (hM : q_okM M = true) (hA : (lg_sl As).length ≤ q_ln M) (hh : q_Z G l M d mc ms Q 0 (q_pad (q_ln M) (q_ar As)) [] h n 0 0) : q_Call G l M d mc ms As h n Q := by
  obtain ⟨m1, m2, m3, m4, m5⟩ := q_okM_s hM
  refine Met.ofW (cc := q_b M) (maxL := q_ln M) (ret := q_r M) m3 rfl ?_
  intro p e s m args below meth c s₁ B hml hv
  obtain ⟨rfl, r, hKx⟩ := hv
  rw [lg_entry_eq]
  have hl := lv_entry As (n := q_ln M) hA
  generalize (lg_sl As ++ List.replicate (q_ln M - (lg_sl As).length) Slot.unset).toArray = ls at hl ⊢
  refine hh p e s m _ below meth c s.heap [] ls ⟨B.exec, B.bytes, B.returns, hml, B.notSynchronized, findClass_of_methodNamed B.named, atoms_spec (ws := q_ws M) B.pre, hKx, (name_of_methodNamed B.named B.method).1, m2⟩ r va_S.rf ⟨hl.1, hl.2.1, fun q hq => ?_⟩
  obtain ⟨j, h1, h2⟩ := (q_pr_m _ 0 q.1 q.2).mp hq
  have h3 := q_ar_a As 0 j q.2 (q_pad_g _ _ _ _ h2)
  exact hl.2.2 q (by rw [show q = (0 + j, q.2) by rw [← h1]]; exact h3)
end
section
def b_By_init_0 : List (Instr × Nat × Nat) × Nat := ([(.aload_n ⟨0, q_l04⟩, 0, 0), (.invokespecial 3, 1, 0), (.aload_n ⟨0, q_l04⟩, 4, 0), (.sipush 256, 5, 0), (.newarray .byte, 8, 0), (.putfield 9, 10, 0), (.aload_n ⟨0, q_l04⟩, 13, 0), (.iconst 0, 14, 0), (.putfield 15, 15, 0), (.return_, 18, 0)], 19)
def B_By_init : q_B := [(0, b_By_init_0)]
theorem o_By_init : q_okC M_By_init B_By_init = true := by decide +kernel
theorem u_By_init : q_okM M_By_init = true := by decide +kernel
theorem l_By_init_0 : q_bk B_By_init 0 = some ([(.aload_n ⟨0, q_l04⟩, 0, 0), (.invokespecial 3, 1, 0), (.aload_n ⟨0, q_l04⟩, 4, 0), (.sipush 256, 5, 0), (.newarray .byte, 8, 0), (.putfield 9, 10, 0), (.aload_n ⟨0, q_l04⟩, 13, 0), (.iconst 0, 14, 0), (.putfield 15, 15, 0), (.return_, 18, 0)], 19) := rfl
def b_Ta_init_0 : List (Instr × Nat × Nat) × Nat := ([(.aload_n ⟨0, q_l04⟩, 0, 0), (.invokespecial 1, 1, 0), (.aload_n ⟨0, q_l04⟩, 4, 0), (.aload_n ⟨1, q_l14⟩, 5, 0), (.putfield 7, 6, 0), (.aload_n ⟨0, q_l04⟩, 9, 0), (.iconst 0, 10, 0), (.putfield 13, 11, 0), (.aload_n ⟨0, q_l04⟩, 14, 0), (.iconst 0, 15, 0), (.putfield 17, 16, 0), (.return_, 19, 0)], 20)
def B_Ta_init : q_B := [(0, b_Ta_init_0)]
theorem o_Ta_init : q_okC M_Ta_init B_Ta_init = true := by decide +kernel
theorem u_Ta_init : q_okM M_Ta_init = true := by decide +kernel
theorem l_Ta_init_0 : q_bk B_Ta_init 0 = some ([(.aload_n ⟨0, q_l04⟩, 0, 0), (.invokespecial 1, 1, 0), (.aload_n ⟨0, q_l04⟩, 4, 0), (.aload_n ⟨1, q_l14⟩, 5, 0), (.putfield 7, 6, 0), (.aload_n ⟨0, q_l04⟩, 9, 0), (.iconst 0, 10, 0), (.putfield 13, 11, 0), (.aload_n ⟨0, q_l04⟩, 14, 0), (.iconst 0, 15, 0), (.putfield 17, 16, 0), (.return_, 19, 0)], 20) := rfl
def b_Cu_init_0 : List (Instr × Nat × Nat) × Nat := ([(.aload_n ⟨0, q_l04⟩, 0, 0), (.invokespecial 1, 1, 0), (.aload_n ⟨0, q_l04⟩, 4, 0), (.aload_n ⟨1, q_l14⟩, 5, 0), (.putfield 7, 6, 0), (.aload_n ⟨0, q_l04⟩, 9, 0), (.iconst 0, 10, 0), (.putfield 13, 11, 0), (.aload_n ⟨0, q_l04⟩, 14, 0), (.iconst 0, 15, 0), (.putfield 17, 16, 0), (.aload_n ⟨0, q_l04⟩, 19, 0), (.iconst 0, 20, 0), (.putfield 20, 21, 0), (.return_, 24, 0)], 25)
def B_Cu_init : q_B := [(0, b_Cu_init_0)]
theorem o_Cu_init : q_okC M_Cu_init B_Cu_init = true := by decide +kernel
theorem u_Cu_init : q_okM M_Cu_init = true := by decide +kernel
theorem l_Cu_init_0 : q_bk B_Cu_init 0 = some ([(.aload_n ⟨0, q_l04⟩, 0, 0), (.invokespecial 1, 1, 0), (.aload_n ⟨0, q_l04⟩, 4, 0), (.aload_n ⟨1, q_l14⟩, 5, 0), (.putfield 7, 6, 0), (.aload_n ⟨0, q_l04⟩, 9, 0), (.iconst 0, 10, 0), (.putfield 13, 11, 0), (.aload_n ⟨0, q_l04⟩, 14, 0), (.iconst 0, 15, 0), (.putfield 17, 16, 0), (.aload_n ⟨0, q_l04⟩, 19, 0), (.iconst 0, 20, 0), (.putfield 20, 21, 0), (.return_, 24, 0)], 25) := rfl
def b_By_makeRoom_0 : List (Instr × Nat × Nat) × Nat := ([(.iload_n ⟨1, q_l14⟩, 0, 0), (.aload_n ⟨0, q_l04⟩, 1, 0), (.getfield 9, 2, 0), (.arraylength, 5, 0), (.if_icmp .le 38, 6, 44), (.iload_n ⟨1, q_l14⟩, 9, 0), (.sipush 16384, 10, 0), (.if_icmp .gt 31, 13, 44), (.aload_n ⟨0, q_l04⟩, 16, 0), (.aload_n ⟨0, q_l04⟩, 17, 0), (.getfield 9, 18, 0), (.sipush 16384, 21, 0), (.iload_n ⟨1, q_l14⟩, 24, 0), (.iconst 2, 25, 0), (.aload_n ⟨0, q_l04⟩, 26, 0), (.getfield 9, 27, 0), (.arraylength, 30, 0), (.imul, 31, 0), (.invokestatic 19, 32, 0), (.invokestatic 25, 35, 0), (.invokestatic 28, 38, 0), (.putfield 9, 41, 0)], 44)
def b_By_makeRoom_44 : List (Instr × Nat × Nat) × Nat := ([(.return_, 44, 0)], 45)
def B_By_makeRoom : q_B := [(0, b_By_makeRoom_0), (44, b_By_makeRoom_44)]
theorem o_By_makeRoom : q_okC M_By_makeRoom B_By_makeRoom = true := by decide +kernel
theorem u_By_makeRoom : q_okM M_By_makeRoom = true := by decide +kernel
theorem l_By_makeRoom_0 : q_bk B_By_makeRoom 0 = some ([(.iload_n ⟨1, q_l14⟩, 0, 0), (.aload_n ⟨0, q_l04⟩, 1, 0), (.getfield 9, 2, 0), (.arraylength, 5, 0), (.if_icmp .le 38, 6, 44), (.iload_n ⟨1, q_l14⟩, 9, 0), (.sipush 16384, 10, 0), (.if_icmp .gt 31, 13, 44), (.aload_n ⟨0, q_l04⟩, 16, 0), (.aload_n ⟨0, q_l04⟩, 17, 0), (.getfield 9, 18, 0), (.sipush 16384, 21, 0), (.iload_n ⟨1, q_l14⟩, 24, 0), (.iconst 2, 25, 0), (.aload_n ⟨0, q_l04⟩, 26, 0), (.getfield 9, 27, 0), (.arraylength, 30, 0), (.imul, 31, 0), (.invokestatic 19, 32, 0), (.invokestatic 25, 35, 0), (.invokestatic 28, 38, 0), (.putfield 9, 41, 0)], 44) := rfl
theorem l_By_makeRoom_44 : q_bk B_By_makeRoom 44 = some ([(.return_, 44, 0)], 45) := rfl
def b_Ar_copyOf_0 : List (Instr × Nat × Nat) × Nat := ([(.iload_n ⟨1, q_l14⟩, 0, 0), (.aload_n ⟨0, q_l04⟩, 1, 0), (.arraylength, 2, 0), (.if_icmp .ne 11, 3, 14), (.aload_n ⟨0, q_l04⟩, 6, 0), (.invokevirtual 310, 7, 0), (.checkcast 311, 10, 0), (.areturn, 13, 0)], 14)
def b_Ar_copyOf_14 : List (Instr × Nat × Nat) × Nat := ([(.iload_n ⟨1, q_l14⟩, 14, 0), (.newarray .byte, 15, 0), (.astore_n ⟨2, q_l24⟩, 17, 0), (.aload_n ⟨0, q_l04⟩, 18, 0), (.iconst 0, 19, 0), (.aload_n ⟨2, q_l24⟩, 20, 0), (.iconst 0, 21, 0), (.aload_n ⟨0, q_l04⟩, 22, 0), (.arraylength, 23, 0), (.iload_n ⟨1, q_l14⟩, 24, 0), (.invokestatic 304, 25, 0), (.invokestatic 150, 28, 0), (.aload_n ⟨2, q_l24⟩, 31, 0), (.areturn, 32, 0)], 33)
def B_Ar_copyOf : q_B := [(0, b_Ar_copyOf_0), (14, b_Ar_copyOf_14)]
theorem o_Ar_copyOf : q_okC M_Ar_copyOf B_Ar_copyOf = true := by decide +kernel
theorem u_Ar_copyOf : q_okM M_Ar_copyOf = true := by decide +kernel
theorem l_Ar_copyOf_0 : q_bk B_Ar_copyOf 0 = some ([(.iload_n ⟨1, q_l14⟩, 0, 0), (.aload_n ⟨0, q_l04⟩, 1, 0), (.arraylength, 2, 0), (.if_icmp .ne 11, 3, 14), (.aload_n ⟨0, q_l04⟩, 6, 0), (.invokevirtual 310, 7, 0), (.checkcast 311, 10, 0), (.areturn, 13, 0)], 14) := rfl
theorem l_Ar_copyOf_14 : q_bk B_Ar_copyOf 14 = some ([(.iload_n ⟨1, q_l14⟩, 14, 0), (.newarray .byte, 15, 0), (.astore_n ⟨2, q_l24⟩, 17, 0), (.aload_n ⟨0, q_l04⟩, 18, 0), (.iconst 0, 19, 0), (.aload_n ⟨2, q_l24⟩, 20, 0), (.iconst 0, 21, 0), (.aload_n ⟨0, q_l04⟩, 22, 0), (.arraylength, 23, 0), (.iload_n ⟨1, q_l14⟩, 24, 0), (.invokestatic 304, 25, 0), (.invokestatic 150, 28, 0), (.aload_n ⟨2, q_l24⟩, 31, 0), (.areturn, 32, 0)], 33) := rfl
def b_By_addWord_0 : List (Instr × Nat × Nat) × Nat := ([(.aload_n ⟨0, q_l04⟩, 0, 0), (.getfield 15, 1, 0), (.iconst 4, 4, 0), (.iadd, 5, 0), (.aload_n ⟨0, q_l04⟩, 6, 0), (.getfield 9, 7, 0), (.arraylength, 10, 0), (.if_icmp .le 4, 11, 15), (.return_, 14, 0)], 15)
def b_By_addWord_15 : List (Instr × Nat × Nat) × Nat := ([(.aload_n ⟨0, q_l04⟩, 15, 0), (.getfield 9, 16, 0), (.aload_n ⟨0, q_l04⟩, 19, 0), (.getfield 15, 20, 0), (.iload_n ⟨1, q_l14⟩, 23, 0), (.bipush 24, 24, 0), (.ishr, 26, 0), (.i2b, 27, 0), (.bastore, 28, 0), (.aload_n ⟨0, q_l04⟩, 29, 0), (.getfield 9, 30, 0), (.aload_n ⟨0, q_l04⟩, 33, 0), (.getfield 15, 34, 0), (.iconst 1, 37, 0), (.iadd, 38, 0), (.iload_n ⟨1, q_l14⟩, 39, 0), (.bipush 16, 40, 0), (.ishr, 42, 0), (.i2b, 43, 0), (.bastore, 44, 0), (.aload_n ⟨0, q_l04⟩, 45, 0), (.getfield 9, 46, 0), (.aload_n ⟨0, q_l04⟩, 49, 0), (.getfield 15, 50, 0), (.iconst 2, 53, 0), (.iadd, 54, 0), (.iload_n ⟨1, q_l14⟩, 55, 0), (.bipush 8, 56, 0), (.ishr, 58, 0), (.i2b, 59, 0), (.bastore, 60, 0), (.aload_n ⟨0, q_l04⟩, 61, 0), (.getfield 9, 62, 0), (.aload_n ⟨0, q_l04⟩, 65, 0), (.getfield 15, 66, 0), (.iconst 3, 69, 0), (.iadd, 70, 0), (.iload_n ⟨1, q_l14⟩, 71, 0), (.i2b, 72, 0), (.bastore, 73, 0), (.aload_n ⟨0, q_l04⟩, 74, 0), (.dup, 75, 0), (.getfield 15, 76, 0), (.iconst 4, 79, 0), (.iadd, 80, 0), (.putfield 15, 81, 0), (.return_, 84, 0)], 85)
def B_By_addWord : q_B := [(0, b_By_addWord_0), (15, b_By_addWord_15)]
theorem o_By_addWord : q_okC M_By_addWord B_By_addWord = true := by decide +kernel
theorem u_By_addWord : q_okM M_By_addWord = true := by decide +kernel
theorem l_By_addWord_0 : q_bk B_By_addWord 0 = some ([(.aload_n ⟨0, q_l04⟩, 0, 0), (.getfield 15, 1, 0), (.iconst 4, 4, 0), (.iadd, 5, 0), (.aload_n ⟨0, q_l04⟩, 6, 0), (.getfield 9, 7, 0), (.arraylength, 10, 0), (.if_icmp .le 4, 11, 15), (.return_, 14, 0)], 15) := rfl
theorem l_By_addWord_15 : q_bk B_By_addWord 15 = some ([(.aload_n ⟨0, q_l04⟩, 15, 0), (.getfield 9, 16, 0), (.aload_n ⟨0, q_l04⟩, 19, 0), (.getfield 15, 20, 0), (.iload_n ⟨1, q_l14⟩, 23, 0), (.bipush 24, 24, 0), (.ishr, 26, 0), (.i2b, 27, 0), (.bastore, 28, 0), (.aload_n ⟨0, q_l04⟩, 29, 0), (.getfield 9, 30, 0), (.aload_n ⟨0, q_l04⟩, 33, 0), (.getfield 15, 34, 0), (.iconst 1, 37, 0), (.iadd, 38, 0), (.iload_n ⟨1, q_l14⟩, 39, 0), (.bipush 16, 40, 0), (.ishr, 42, 0), (.i2b, 43, 0), (.bastore, 44, 0), (.aload_n ⟨0, q_l04⟩, 45, 0), (.getfield 9, 46, 0), (.aload_n ⟨0, q_l04⟩, 49, 0), (.getfield 15, 50, 0), (.iconst 2, 53, 0), (.iadd, 54, 0), (.iload_n ⟨1, q_l14⟩, 55, 0), (.bipush 8, 56, 0), (.ishr, 58, 0), (.i2b, 59, 0), (.bastore, 60, 0), (.aload_n ⟨0, q_l04⟩, 61, 0), (.getfield 9, 62, 0), (.aload_n ⟨0, q_l04⟩, 65, 0), (.getfield 15, 66, 0), (.iconst 3, 69, 0), (.iadd, 70, 0), (.iload_n ⟨1, q_l14⟩, 71, 0), (.i2b, 72, 0), (.bastore, 73, 0), (.aload_n ⟨0, q_l04⟩, 74, 0), (.dup, 75, 0), (.getfield 15, 76, 0), (.iconst 4, 79, 0), (.iadd, 80, 0), (.putfield 15, 81, 0), (.return_, 84, 0)], 85) := rfl
def b_By_u8_0 : List (Instr × Nat × Nat) × Nat := ([(.iload_n ⟨1, q_l14⟩, 0, 0), (.ifCond .lt 24, 1, 25), (.iload_n ⟨1, q_l14⟩, 4, 0), (.aload_n ⟨0, q_l04⟩, 5, 0), (.getfield 15, 6, 0), (.if_icmp .ge 16, 9, 25), (.aload_n ⟨0, q_l04⟩, 12, 0), (.getfield 9, 13, 0), (.iload_n ⟨1, q_l14⟩, 16, 0), (.baload, 17, 0), (.sipush 255, 18, 0), (.iand, 21, 0), (.goto 4, 22, 26)], 25)
def b_By_u8_25 : List (Instr × Nat × Nat) × Nat := ([(.iconst 0, 25, 0)], 26)
def b_By_u8_26 : List (Instr × Nat × Nat) × Nat := ([(.ireturn, 26, 0)], 27)
def B_By_u8 : q_B := [(0, b_By_u8_0), (25, b_By_u8_25), (26, b_By_u8_26)]
theorem o_By_u8 : q_okC M_By_u8 B_By_u8 = true := by decide +kernel
theorem u_By_u8 : q_okM M_By_u8 = true := by decide +kernel
theorem l_By_u8_0 : q_bk B_By_u8 0 = some ([(.iload_n ⟨1, q_l14⟩, 0, 0), (.ifCond .lt 24, 1, 25), (.iload_n ⟨1, q_l14⟩, 4, 0), (.aload_n ⟨0, q_l04⟩, 5, 0), (.getfield 15, 6, 0), (.if_icmp .ge 16, 9, 25), (.aload_n ⟨0, q_l04⟩, 12, 0), (.getfield 9, 13, 0), (.iload_n ⟨1, q_l14⟩, 16, 0), (.baload, 17, 0), (.sipush 255, 18, 0), (.iand, 21, 0), (.goto 4, 22, 26)], 25) := rfl
theorem l_By_u8_25 : q_bk B_By_u8 25 = some ([(.iconst 0, 25, 0)], 26) := rfl
theorem l_By_u8_26 : q_bk B_By_u8 26 = some ([(.ireturn, 26, 0)], 27) := rfl
def b_By_copy_0 : List (Instr × Nat × Nat) × Nat := ([(.aload_n ⟨0, q_l04⟩, 0, 0), (.aload_n ⟨1, q_l14⟩, 1, 0), (.getfield 15, 2, 0), (.invokevirtual 34, 5, 0), (.aload_n ⟨1, q_l14⟩, 8, 0), (.getfield 15, 9, 0), (.aload_n ⟨0, q_l04⟩, 12, 0), (.getfield 9, 13, 0), (.arraylength, 16, 0), (.if_icmp .gt 28, 17, 45), (.aload_n ⟨1, q_l14⟩, 20, 0), (.getfield 9, 21, 0), (.iconst 0, 24, 0), (.aload_n ⟨0, q_l04⟩, 25, 0), (.getfield 9, 26, 0), (.iconst 0, 29, 0), (.aload_n ⟨1, q_l14⟩, 30, 0), (.getfield 15, 31, 0), (.invokestatic 38, 34, 0), (.aload_n ⟨0, q_l04⟩, 37, 0), (.aload_n ⟨1, q_l14⟩, 38, 0), (.getfield 15, 39, 0), (.putfield 15, 42, 0)], 45)
def b_By_copy_45 : List (Instr × Nat × Nat) × Nat := ([(.return_, 45, 0)], 46)
def B_By_copy : q_B := [(0, b_By_copy_0), (45, b_By_copy_45)]
theorem o_By_copy : q_okC M_By_copy B_By_copy = true := by decide +kernel
theorem u_By_copy : q_okM M_By_copy = true := by decide +kernel
theorem l_By_copy_0 : q_bk B_By_copy 0 = some ([(.aload_n ⟨0, q_l04⟩, 0, 0), (.aload_n ⟨1, q_l14⟩, 1, 0), (.getfield 15, 2, 0), (.invokevirtual 34, 5, 0), (.aload_n ⟨1, q_l14⟩, 8, 0), (.getfield 15, 9, 0), (.aload_n ⟨0, q_l04⟩, 12, 0), (.getfield 9, 13, 0), (.arraylength, 16, 0), (.if_icmp .gt 28, 17, 45), (.aload_n ⟨1, q_l14⟩, 20, 0), (.getfield 9, 21, 0), (.iconst 0, 24, 0), (.aload_n ⟨0, q_l04⟩, 25, 0), (.getfield 9, 26, 0), (.iconst 0, 29, 0), (.aload_n ⟨1, q_l14⟩, 30, 0), (.getfield 15, 31, 0), (.invokestatic 38, 34, 0), (.aload_n ⟨0, q_l04⟩, 37, 0), (.aload_n ⟨1, q_l14⟩, 38, 0), (.getfield 15, 39, 0), (.putfield 15, 42, 0)], 45) := rfl
theorem l_By_copy_45 : q_bk B_By_copy 45 = some ([(.return_, 45, 0)], 46) := rfl
def b_Ta_lay_0 : List (Instr × Nat × Nat) × Nat := ([(.aload_n ⟨0, q_l04⟩, 0, 0), (.iload_n ⟨1, q_l14⟩, 1, 0), (.putfield 13, 2, 0), (.aload_n ⟨0, q_l04⟩, 5, 0), (.iload_n ⟨2, q_l24⟩, 6, 0), (.putfield 17, 7, 0), (.return_, 10, 0)], 11)
def B_Ta_lay : q_B := [(0, b_Ta_lay_0)]
theorem o_Ta_lay : q_okC M_Ta_lay B_Ta_lay = true := by decide +kernel
theorem u_Ta_lay : q_okM M_Ta_lay = true := by decide +kernel
theorem l_Ta_lay_0 : q_bk B_Ta_lay 0 = some ([(.aload_n ⟨0, q_l04⟩, 0, 0), (.iload_n ⟨1, q_l14⟩, 1, 0), (.putfield 13, 2, 0), (.aload_n ⟨0, q_l04⟩, 5, 0), (.iload_n ⟨2, q_l24⟩, 6, 0), (.putfield 17, 7, 0), (.return_, 10, 0)], 11) := rfl
def b_Ta_u16_0 : List (Instr × Nat × Nat) × Nat := ([(.aload_n ⟨0, q_l04⟩, 0, 0), (.iload_n ⟨1, q_l14⟩, 1, 0), (.invokevirtual 29, 2, 0), (.bipush 8, 5, 0), (.ishl, 7, 0), (.aload_n ⟨0, q_l04⟩, 8, 0), (.iload_n ⟨1, q_l14⟩, 9, 0), (.iconst 1, 10, 0), (.iadd, 11, 0), (.invokevirtual 29, 12, 0), (.ior, 15, 0), (.ireturn, 16, 0)], 17)
def B_Ta_u16 : q_B := [(0, b_Ta_u16_0)]
theorem o_Ta_u16 : q_okC M_Ta_u16 B_Ta_u16 = true := by decide +kernel
theorem u_Ta_u16 : q_okM M_Ta_u16 = true := by decide +kernel
theorem l_Ta_u16_0 : q_bk B_Ta_u16 0 = some ([(.aload_n ⟨0, q_l04⟩, 0, 0), (.iload_n ⟨1, q_l14⟩, 1, 0), (.invokevirtual 29, 2, 0), (.bipush 8, 5, 0), (.ishl, 7, 0), (.aload_n ⟨0, q_l04⟩, 8, 0), (.iload_n ⟨1, q_l14⟩, 9, 0), (.iconst 1, 10, 0), (.iadd, 11, 0), (.invokevirtual 29, 12, 0), (.ior, 15, 0), (.ireturn, 16, 0)], 17) := rfl
def b_Ta_u8_0 : List (Instr × Nat × Nat) × Nat := ([(.aload_n ⟨0, q_l04⟩, 0, 0), (.getfield 13, 1, 0), (.iload_n ⟨1, q_l14⟩, 4, 0), (.iadd, 5, 0), (.istore_n ⟨2, q_l24⟩, 6, 0), (.iload_n ⟨1, q_l14⟩, 7, 0), (.ifCond .lt 42, 8, 50), (.iload_n ⟨1, q_l14⟩, 11, 0), (.aload_n ⟨0, q_l04⟩, 12, 0), (.getfield 17, 13, 0), (.if_icmp .ge 34, 16, 50), (.iload_n ⟨2, q_l24⟩, 19, 0), (.ifCond .lt 30, 20, 50), (.iload_n ⟨2, q_l24⟩, 23, 0), (.aload_n ⟨0, q_l04⟩, 24, 0), (.getfield 7, 25, 0), (.getfield 20, 28, 0), (.if_icmp .ge 19, 31, 50), (.aload_n ⟨0, q_l04⟩, 34, 0), (.getfield 7, 35, 0), (.getfield 25, 38, 0), (.iload_n ⟨2, q_l24⟩, 41, 0), (.baload, 42, 0), (.sipush 255, 43, 0), (.iand, 46, 0), (.goto 4, 47, 51)], 50)
def b_Ta_u8_50 : List (Instr × Nat × Nat) × Nat := ([(.iconst 0, 50, 0)], 51)
def b_Ta_u8_51 : List (Instr × Nat × Nat) × Nat := ([(.ireturn, 51, 0)], 52)
def B_Ta_u8 : q_B := [(0, b_Ta_u8_0), (50, b_Ta_u8_50), (51, b_Ta_u8_51)]
theorem o_Ta_u8 : q_okC M_Ta_u8 B_Ta_u8 = true := by decide +kernel
theorem u_Ta_u8 : q_okM M_Ta_u8 = true := by decide +kernel
theorem l_Ta_u8_0 : q_bk B_Ta_u8 0 = some ([(.aload_n ⟨0, q_l04⟩, 0, 0), (.getfield 13, 1, 0), (.iload_n ⟨1, q_l14⟩, 4, 0), (.iadd, 5, 0), (.istore_n ⟨2, q_l24⟩, 6, 0), (.iload_n ⟨1, q_l14⟩, 7, 0), (.ifCond .lt 42, 8, 50), (.iload_n ⟨1, q_l14⟩, 11, 0), (.aload_n ⟨0, q_l04⟩, 12, 0), (.getfield 17, 13, 0), (.if_icmp .ge 34, 16, 50), (.iload_n ⟨2, q_l24⟩, 19, 0), (.ifCond .lt 30, 20, 50), (.iload_n ⟨2, q_l24⟩, 23, 0), (.aload_n ⟨0, q_l04⟩, 24, 0), (.getfield 7, 25, 0), (.getfield 20, 28, 0), (.if_icmp .ge 19, 31, 50), (.aload_n ⟨0, q_l04⟩, 34, 0), (.getfield 7, 35, 0), (.getfield 25, 38, 0), (.iload_n ⟨2, q_l24⟩, 41, 0), (.baload, 42, 0), (.sipush 255, 43, 0), (.iand, 46, 0), (.goto 4, 47, 51)], 50) := rfl
theorem l_Ta_u8_50 : q_bk B_Ta_u8 50 = some ([(.iconst 0, 50, 0)], 51) := rfl
theorem l_Ta_u8_51 : q_bk B_Ta_u8 51 = some ([(.ireturn, 51, 0)], 52) := rfl
def b_Ta_u32_0 : List (Instr × Nat × Nat) × Nat := ([(.aload_n ⟨0, q_l04⟩, 0, 0), (.iload_n ⟨1, q_l14⟩, 1, 0), (.invokevirtual 29, 2, 0), (.i2l, 5, 0), (.bipush 24, 6, 0), (.lshl, 8, 0), (.aload_n ⟨0, q_l04⟩, 9, 0), (.iload_n ⟨1, q_l14⟩, 10, 0), (.iconst 1, 11, 0), (.iadd, 12, 0), (.invokevirtual 29, 13, 0), (.bipush 16, 16, 0), (.ishl, 18, 0), (.i2l, 19, 0), (.lor, 20, 0), (.aload_n ⟨0, q_l04⟩, 21, 0), (.iload_n ⟨1, q_l14⟩, 22, 0), (.iconst 2, 23, 0), (.iadd, 24, 0), (.invokevirtual 29, 25, 0), (.bipush 8, 28, 0), (.ishl, 30, 0), (.i2l, 31, 0), (.lor, 32, 0), (.aload_n ⟨0, q_l04⟩, 33, 0), (.iload_n ⟨1, q_l14⟩, 34, 0), (.iconst 3, 35, 0), (.iadd, 36, 0), (.invokevirtual 29, 37, 0), (.i2l, 40, 0), (.lor, 41, 0), (.lreturn, 42, 0)], 43)
def B_Ta_u32 : q_B := [(0, b_Ta_u32_0)]
theorem o_Ta_u32 : q_okC M_Ta_u32 B_Ta_u32 = true := by decide +kernel
theorem u_Ta_u32 : q_okM M_Ta_u32 = true := by decide +kernel
theorem l_Ta_u32_0 : q_bk B_Ta_u32 0 = some ([(.aload_n ⟨0, q_l04⟩, 0, 0), (.iload_n ⟨1, q_l14⟩, 1, 0), (.invokevirtual 29, 2, 0), (.i2l, 5, 0), (.bipush 24, 6, 0), (.lshl, 8, 0), (.aload_n ⟨0, q_l04⟩, 9, 0), (.iload_n ⟨1, q_l14⟩, 10, 0), (.iconst 1, 11, 0), (.iadd, 12, 0), (.invokevirtual 29, 13, 0), (.bipush 16, 16, 0), (.ishl, 18, 0), (.i2l, 19, 0), (.lor, 20, 0), (.aload_n ⟨0, q_l04⟩, 21, 0), (.iload_n ⟨1, q_l14⟩, 22, 0), (.iconst 2, 23, 0), (.iadd, 24, 0), (.invokevirtual 29, 25, 0), (.bipush 8, 28, 0), (.ishl, 30, 0), (.i2l, 31, 0), (.lor, 32, 0), (.aload_n ⟨0, q_l04⟩, 33, 0), (.iload_n ⟨1, q_l14⟩, 34, 0), (.iconst 3, 35, 0), (.iadd, 36, 0), (.invokevirtual 29, 37, 0), (.i2l, 40, 0), (.lor, 41, 0), (.lreturn, 42, 0)], 43) := rfl
def b_Ta_holds_0 : List (Instr × Nat × Nat) × Nat := ([(.lload_n ⟨1, q_l14⟩, 0, 0), (.lconst ⟨0, q_l02⟩, 1, 0), (.lcmp, 2, 0), (.ifCond .lt 25, 3, 28), (.lload_n ⟨3, q_l34⟩, 6, 0), (.lconst ⟨0, q_l02⟩, 7, 0), (.lcmp, 8, 0), (.ifCond .lt 19, 9, 28), (.lload_n ⟨1, q_l14⟩, 12, 0), (.lload_n ⟨3, q_l34⟩, 13, 0), (.ladd, 14, 0), (.aload_n ⟨0, q_l04⟩, 15, 0), (.getfield 17, 16, 0), (.i2l, 19, 0), (.lcmp, 20, 0), (.ifCond .gt 7, 21, 28), (.iconst 1, 24, 0), (.goto 4, 25, 29)], 28)
def b_Ta_holds_28 : List (Instr × Nat × Nat) × Nat := ([(.iconst 0, 28, 0)], 29)
def b_Ta_holds_29 : List (Instr × Nat × Nat) × Nat := ([(.ireturn, 29, 0)], 30)
def B_Ta_holds : q_B := [(0, b_Ta_holds_0), (28, b_Ta_holds_28), (29, b_Ta_holds_29)]
theorem o_Ta_holds : q_okC M_Ta_holds B_Ta_holds = true := by decide +kernel
theorem u_Ta_holds : q_okM M_Ta_holds = true := by decide +kernel
theorem l_Ta_holds_0 : q_bk B_Ta_holds 0 = some ([(.lload_n ⟨1, q_l14⟩, 0, 0), (.lconst ⟨0, q_l02⟩, 1, 0), (.lcmp, 2, 0), (.ifCond .lt 25, 3, 28), (.lload_n ⟨3, q_l34⟩, 6, 0), (.lconst ⟨0, q_l02⟩, 7, 0), (.lcmp, 8, 0), (.ifCond .lt 19, 9, 28), (.lload_n ⟨1, q_l14⟩, 12, 0), (.lload_n ⟨3, q_l34⟩, 13, 0), (.ladd, 14, 0), (.aload_n ⟨0, q_l04⟩, 15, 0), (.getfield 17, 16, 0), (.i2l, 19, 0), (.lcmp, 20, 0), (.ifCond .gt 7, 21, 28), (.iconst 1, 24, 0), (.goto 4, 25, 29)], 28) := rfl
theorem l_Ta_holds_28 : q_bk B_Ta_holds 28 = some ([(.iconst 0, 28, 0)], 29) := rfl
theorem l_Ta_holds_29 : q_bk B_Ta_holds 29 = some ([(.ireturn, 29, 0)], 30) := rfl
def b_Cu_begin_0 : List (Instr × Nat × Nat) × Nat := ([(.aload_n ⟨0, q_l04⟩, 0, 0), (.aload_n ⟨1, q_l14⟩, 1, 0), (.getfield 24, 2, 0), (.putfield 7, 5, 0), (.aload_n ⟨0, q_l04⟩, 8, 0), (.aload_n ⟨1, q_l14⟩, 9, 0), (.getfield 27, 10, 0), (.iload_n ⟨2, q_l24⟩, 13, 0), (.iadd, 14, 0), (.putfield 13, 15, 0), (.aload_n ⟨0, q_l04⟩, 18, 0), (.aload_n ⟨1, q_l14⟩, 19, 0), (.getfield 27, 20, 0), (.iload_n ⟨3, q_l34⟩, 23, 0), (.iadd, 24, 0), (.aload_n ⟨0, q_l04⟩, 25, 0), (.getfield 7, 26, 0), (.getfield 30, 29, 0), (.invokestatic 35, 32, 0), (.putfield 17, 35, 0), (.aload_n ⟨0, q_l04⟩, 38, 0), (.iconst 0, 39, 0), (.putfield 20, 40, 0), (.return_, 43, 0)], 44)
def B_Cu_begin : q_B := [(0, b_Cu_begin_0)]
theorem o_Cu_begin : q_okC M_Cu_begin B_Cu_begin = true := by decide +kernel
theorem u_Cu_begin : q_okM M_Cu_begin = true := by decide +kernel
theorem l_Cu_begin_0 : q_bk B_Cu_begin 0 = some ([(.aload_n ⟨0, q_l04⟩, 0, 0), (.aload_n ⟨1, q_l14⟩, 1, 0), (.getfield 24, 2, 0), (.putfield 7, 5, 0), (.aload_n ⟨0, q_l04⟩, 8, 0), (.aload_n ⟨1, q_l14⟩, 9, 0), (.getfield 27, 10, 0), (.iload_n ⟨2, q_l24⟩, 13, 0), (.iadd, 14, 0), (.putfield 13, 15, 0), (.aload_n ⟨0, q_l04⟩, 18, 0), (.aload_n ⟨1, q_l14⟩, 19, 0), (.getfield 27, 20, 0), (.iload_n ⟨3, q_l34⟩, 23, 0), (.iadd, 24, 0), (.aload_n ⟨0, q_l04⟩, 25, 0), (.getfield 7, 26, 0), (.getfield 30, 29, 0), (.invokestatic 35, 32, 0), (.putfield 17, 35, 0), (.aload_n ⟨0, q_l04⟩, 38, 0), (.iconst 0, 39, 0), (.putfield 20, 40, 0), (.return_, 43, 0)], 44) := rfl
def b_Cu_u16_0 : List (Instr × Nat × Nat) × Nat := ([(.aload_n ⟨0, q_l04⟩, 0, 0), (.getfield 13, 1, 0), (.ifCond .lt 16, 4, 20), (.aload_n ⟨0, q_l04⟩, 7, 0), (.getfield 17, 8, 0), (.aload_n ⟨0, q_l04⟩, 11, 0), (.getfield 13, 12, 0), (.isub, 15, 0), (.iconst 2, 16, 0), (.if_icmp .ge 10, 17, 27)], 20)
def b_Cu_u16_20 : List (Instr × Nat × Nat) × Nat := ([(.aload_n ⟨0, q_l04⟩, 20, 0), (.iconst 1, 21, 0), (.putfield 20, 22, 0), (.iconst 0, 25, 0), (.ireturn, 26, 0)], 27)
def b_Cu_u16_27 : List (Instr × Nat × Nat) × Nat := ([(.aload_n ⟨0, q_l04⟩, 27, 0), (.getfield 7, 28, 0), (.getfield 41, 31, 0), (.aload_n ⟨0, q_l04⟩, 34, 0), (.getfield 13, 35, 0), (.baload, 38, 0), (.sipush 255, 39, 0), (.iand, 42, 0), (.bipush 8, 43, 0), (.ishl, 45, 0), (.aload_n ⟨0, q_l04⟩, 46, 0), (.getfield 7, 47, 0), (.getfield 41, 50, 0), (.aload_n ⟨0, q_l04⟩, 53, 0), (.getfield 13, 54, 0), (.iconst 1, 57, 0), (.iadd, 58, 0), (.baload, 59, 0), (.sipush 255, 60, 0), (.iand, 63, 0), (.ior, 64, 0), (.istore_n ⟨1, q_l14⟩, 65, 0), (.aload_n ⟨0, q_l04⟩, 66, 0), (.dup, 67, 0), (.getfield 13, 68, 0), (.iconst 2, 71, 0), (.iadd, 72, 0), (.putfield 13, 73, 0), (.iload_n ⟨1, q_l14⟩, 76, 0), (.ireturn, 77, 0)], 78)
def B_Cu_u16 : q_B := [(0, b_Cu_u16_0), (20, b_Cu_u16_20), (27, b_Cu_u16_27)]
theorem o_Cu_u16 : q_okC M_Cu_u16 B_Cu_u16 = true := by decide +kernel
theorem u_Cu_u16 : q_okM M_Cu_u16 = true := by decide +kernel
theorem l_Cu_u16_0 : q_bk B_Cu_u16 0 = some ([(.aload_n ⟨0, q_l04⟩, 0, 0), (.getfield 13, 1, 0), (.ifCond .lt 16, 4, 20), (.aload_n ⟨0, q_l04⟩, 7, 0), (.getfield 17, 8, 0), (.aload_n ⟨0, q_l04⟩, 11, 0), (.getfield 13, 12, 0), (.isub, 15, 0), (.iconst 2, 16, 0), (.if_icmp .ge 10, 17, 27)], 20) := rfl
theorem l_Cu_u16_20 : q_bk B_Cu_u16 20 = some ([(.aload_n ⟨0, q_l04⟩, 20, 0), (.iconst 1, 21, 0), (.putfield 20, 22, 0), (.iconst 0, 25, 0), (.ireturn, 26, 0)], 27) := rfl
theorem l_Cu_u16_27 : q_bk B_Cu_u16 27 = some ([(.aload_n ⟨0, q_l04⟩, 27, 0), (.getfield 7, 28, 0), (.getfield 41, 31, 0), (.aload_n ⟨0, q_l04⟩, 34, 0), (.getfield 13, 35, 0), (.baload, 38, 0), (.sipush 255, 39, 0), (.iand, 42, 0), (.bipush 8, 43, 0), (.ishl, 45, 0), (.aload_n ⟨0, q_l04⟩, 46, 0), (.getfield 7, 47, 0), (.getfield 41, 50, 0), (.aload_n ⟨0, q_l04⟩, 53, 0), (.getfield 13, 54, 0), (.iconst 1, 57, 0), (.iadd, 58, 0), (.baload, 59, 0), (.sipush 255, 60, 0), (.iand, 63, 0), (.ior, 64, 0), (.istore_n ⟨1, q_l14⟩, 65, 0), (.aload_n ⟨0, q_l04⟩, 66, 0), (.dup, 67, 0), (.getfield 13, 68, 0), (.iconst 2, 71, 0), (.iadd, 72, 0), (.putfield 13, 73, 0), (.iload_n ⟨1, q_l14⟩, 76, 0), (.ireturn, 77, 0)], 78) := rfl
def b_Cu_pass_0 : List (Instr × Nat × Nat) × Nat := ([(.iload_n ⟨1, q_l14⟩, 0, 0), (.aload_n ⟨0, q_l04⟩, 1, 0), (.getfield 17, 2, 0), (.aload_n ⟨0, q_l04⟩, 5, 0), (.getfield 13, 6, 0), (.isub, 9, 0), (.if_icmp .le 11, 10, 21), (.aload_n ⟨0, q_l04⟩, 13, 0), (.iconst 1, 14, 0), (.putfield 20, 15, 0), (.goto 13, 18, 31)], 21)
def b_Cu_pass_21 : List (Instr × Nat × Nat) × Nat := ([(.aload_n ⟨0, q_l04⟩, 21, 0), (.dup, 22, 0), (.getfield 13, 23, 0), (.iload_n ⟨1, q_l14⟩, 26, 0), (.iadd, 27, 0), (.putfield 13, 28, 0)], 31)
def b_Cu_pass_31 : List (Instr × Nat × Nat) × Nat := ([(.return_, 31, 0)], 32)
def B_Cu_pass : q_B := [(0, b_Cu_pass_0), (21, b_Cu_pass_21), (31, b_Cu_pass_31)]
theorem o_Cu_pass : q_okC M_Cu_pass B_Cu_pass = true := by decide +kernel
theorem u_Cu_pass : q_okM M_Cu_pass = true := by decide +kernel
theorem l_Cu_pass_0 : q_bk B_Cu_pass 0 = some ([(.iload_n ⟨1, q_l14⟩, 0, 0), (.aload_n ⟨0, q_l04⟩, 1, 0), (.getfield 17, 2, 0), (.aload_n ⟨0, q_l04⟩, 5, 0), (.getfield 13, 6, 0), (.isub, 9, 0), (.if_icmp .le 11, 10, 21), (.aload_n ⟨0, q_l04⟩, 13, 0), (.iconst 1, 14, 0), (.putfield 20, 15, 0), (.goto 13, 18, 31)], 21) := rfl
theorem l_Cu_pass_21 : q_bk B_Cu_pass 21 = some ([(.aload_n ⟨0, q_l04⟩, 21, 0), (.dup, 22, 0), (.getfield 13, 23, 0), (.iload_n ⟨1, q_l14⟩, 26, 0), (.iadd, 27, 0), (.putfield 13, 28, 0)], 31) := rfl
theorem l_Cu_pass_31 : q_bk B_Cu_pass 31 = some ([(.return_, 31, 0)], 32) := rfl
def b_Cu_follow_0 : List (Instr × Nat × Nat) × Nat := ([(.aload_n ⟨0, q_l04⟩, 0, 0), (.aload_n ⟨1, q_l14⟩, 1, 0), (.getfield 7, 2, 0), (.putfield 7, 5, 0), (.aload_n ⟨0, q_l04⟩, 8, 0), (.aload_n ⟨1, q_l14⟩, 9, 0), (.getfield 13, 10, 0), (.putfield 13, 13, 0), (.aload_n ⟨0, q_l04⟩, 16, 0), (.aload_n ⟨1, q_l14⟩, 17, 0), (.getfield 17, 18, 0), (.putfield 17, 21, 0), (.aload_n ⟨0, q_l04⟩, 24, 0), (.aload_n ⟨1, q_l14⟩, 25, 0), (.getfield 20, 26, 0), (.putfield 20, 29, 0), (.return_, 32, 0)], 33)
def B_Cu_follow : q_B := [(0, b_Cu_follow_0)]
theorem o_Cu_follow : q_okC M_Cu_follow B_Cu_follow = true := by decide +kernel
theorem u_Cu_follow : q_okM M_Cu_follow = true := by decide +kernel
theorem l_Cu_follow_0 : q_bk B_Cu_follow 0 = some ([(.aload_n ⟨0, q_l04⟩, 0, 0), (.aload_n ⟨1, q_l14⟩, 1, 0), (.getfield 7, 2, 0), (.putfield 7, 5, 0), (.aload_n ⟨0, q_l04⟩, 8, 0), (.aload_n ⟨1, q_l14⟩, 9, 0), (.getfield 13, 10, 0), (.putfield 13, 13, 0), (.aload_n ⟨0, q_l04⟩, 16, 0), (.aload_n ⟨1, q_l14⟩, 17, 0), (.getfield 17, 18, 0), (.putfield 17, 21, 0), (.aload_n ⟨0, q_l04⟩, 24, 0), (.aload_n ⟨1, q_l14⟩, 25, 0), (.getfield 20, 26, 0), (.putfield 20, 29, 0), (.return_, 32, 0)], 33) := rfl
def b_Cu_u8_0 : List (Instr × Nat × Nat) × Nat := ([(.aload_n ⟨0, q_l04⟩, 0, 0), (.getfield 13, 1, 0), (.ifCond .lt 16, 4, 20), (.aload_n ⟨0, q_l04⟩, 7, 0), (.getfield 17, 8, 0), (.aload_n ⟨0, q_l04⟩, 11, 0), (.getfield 13, 12, 0), (.isub, 15, 0), (.iconst 1, 16, 0), (.if_icmp .ge 10, 17, 27)], 20)
def b_Cu_u8_20 : List (Instr × Nat × Nat) × Nat := ([(.aload_n ⟨0, q_l04⟩, 20, 0), (.iconst 1, 21, 0), (.putfield 20, 22, 0), (.iconst 0, 25, 0), (.ireturn, 26, 0)], 27)
def b_Cu_u8_27 : List (Instr × Nat × Nat) × Nat := ([(.aload_n ⟨0, q_l04⟩, 27, 0), (.getfield 7, 28, 0), (.getfield 41, 31, 0), (.aload_n ⟨0, q_l04⟩, 34, 0), (.getfield 13, 35, 0), (.baload, 38, 0), (.sipush 255, 39, 0), (.iand, 42, 0), (.istore_n ⟨1, q_l14⟩, 43, 0), (.aload_n ⟨0, q_l04⟩, 44, 0), (.dup, 45, 0), (.getfield 13, 46, 0), (.iconst 1, 49, 0), (.iadd, 50, 0), (.putfield 13, 51, 0), (.iload_n ⟨1, q_l14⟩, 54, 0), (.ireturn, 55, 0)], 56)
def B_Cu_u8 : q_B := [(0, b_Cu_u8_0), (20, b_Cu_u8_20), (27, b_Cu_u8_27)]
theorem o_Cu_u8 : q_okC M_Cu_u8 B_Cu_u8 = true := by decide +kernel
theorem u_Cu_u8 : q_okM M_Cu_u8 = true := by decide +kernel
theorem l_Cu_u8_0 : q_bk B_Cu_u8 0 = some ([(.aload_n ⟨0, q_l04⟩, 0, 0), (.getfield 13, 1, 0), (.ifCond .lt 16, 4, 20), (.aload_n ⟨0, q_l04⟩, 7, 0), (.getfield 17, 8, 0), (.aload_n ⟨0, q_l04⟩, 11, 0), (.getfield 13, 12, 0), (.isub, 15, 0), (.iconst 1, 16, 0), (.if_icmp .ge 10, 17, 27)], 20) := rfl
theorem l_Cu_u8_20 : q_bk B_Cu_u8 20 = some ([(.aload_n ⟨0, q_l04⟩, 20, 0), (.iconst 1, 21, 0), (.putfield 20, 22, 0), (.iconst 0, 25, 0), (.ireturn, 26, 0)], 27) := rfl
theorem l_Cu_u8_27 : q_bk B_Cu_u8 27 = some ([(.aload_n ⟨0, q_l04⟩, 27, 0), (.getfield 7, 28, 0), (.getfield 41, 31, 0), (.aload_n ⟨0, q_l04⟩, 34, 0), (.getfield 13, 35, 0), (.baload, 38, 0), (.sipush 255, 39, 0), (.iand, 42, 0), (.istore_n ⟨1, q_l14⟩, 43, 0), (.aload_n ⟨0, q_l04⟩, 44, 0), (.dup, 45, 0), (.getfield 13, 46, 0), (.iconst 1, 49, 0), (.iadd, 50, 0), (.putfield 13, 51, 0), (.iload_n ⟨1, q_l14⟩, 54, 0), (.ireturn, 55, 0)], 56) := rfl
def b_In_bitCount_0 : List (Instr × Nat × Nat) × Nat := ([(.iload_n ⟨0, q_l04⟩, 0, 0), (.iload_n ⟨0, q_l04⟩, 1, 0), (.iconst 1, 2, 0), (.iushr, 3, 0), (.ldc_w 265, 4, 0), (.iand, 7, 0), (.isub, 8, 0), (.istore_n ⟨0, q_l04⟩, 9, 0), (.iload_n ⟨0, q_l04⟩, 10, 0), (.ldc_w 266, 11, 0), (.iand, 14, 0), (.iload_n ⟨0, q_l04⟩, 15, 0), (.iconst 2, 16, 0), (.iushr, 17, 0), (.ldc_w 266, 18, 0), (.iand, 21, 0), (.iadd, 22, 0), (.istore_n ⟨0, q_l04⟩, 23, 0), (.iload_n ⟨0, q_l04⟩, 24, 0), (.iload_n ⟨0, q_l04⟩, 25, 0), (.iconst 4, 26, 0), (.iushr, 27, 0), (.iadd, 28, 0), (.ldc_w 267, 29, 0), (.iand, 32, 0), (.istore_n ⟨0, q_l04⟩, 33, 0), (.iload_n ⟨0, q_l04⟩, 34, 0), (.iload_n ⟨0, q_l04⟩, 35, 0), (.bipush 8, 36, 0), (.iushr, 38, 0), (.iadd, 39, 0), (.istore_n ⟨0, q_l04⟩, 40, 0), (.iload_n ⟨0, q_l04⟩, 41, 0), (.iload_n ⟨0, q_l04⟩, 42, 0), (.bipush 16, 43, 0), (.iushr, 45, 0), (.iadd, 46, 0), (.istore_n ⟨0, q_l04⟩, 47, 0), (.iload_n ⟨0, q_l04⟩, 48, 0), (.bipush 63, 49, 0), (.iand, 51, 0), (.ireturn, 52, 0)], 53)
def B_In_bitCount : q_B := [(0, b_In_bitCount_0)]
theorem o_In_bitCount : q_okC M_In_bitCount B_In_bitCount = true := by decide +kernel
theorem u_In_bitCount : q_okM M_In_bitCount = true := by decide +kernel
theorem l_In_bitCount_0 : q_bk B_In_bitCount 0 = some ([(.iload_n ⟨0, q_l04⟩, 0, 0), (.iload_n ⟨0, q_l04⟩, 1, 0), (.iconst 1, 2, 0), (.iushr, 3, 0), (.ldc_w 265, 4, 0), (.iand, 7, 0), (.isub, 8, 0), (.istore_n ⟨0, q_l04⟩, 9, 0), (.iload_n ⟨0, q_l04⟩, 10, 0), (.ldc_w 266, 11, 0), (.iand, 14, 0), (.iload_n ⟨0, q_l04⟩, 15, 0), (.iconst 2, 16, 0), (.iushr, 17, 0), (.ldc_w 266, 18, 0), (.iand, 21, 0), (.iadd, 22, 0), (.istore_n ⟨0, q_l04⟩, 23, 0), (.iload_n ⟨0, q_l04⟩, 24, 0), (.iload_n ⟨0, q_l04⟩, 25, 0), (.iconst 4, 26, 0), (.iushr, 27, 0), (.iadd, 28, 0), (.ldc_w 267, 29, 0), (.iand, 32, 0), (.istore_n ⟨0, q_l04⟩, 33, 0), (.iload_n ⟨0, q_l04⟩, 34, 0), (.iload_n ⟨0, q_l04⟩, 35, 0), (.bipush 8, 36, 0), (.iushr, 38, 0), (.iadd, 39, 0), (.istore_n ⟨0, q_l04⟩, 40, 0), (.iload_n ⟨0, q_l04⟩, 41, 0), (.iload_n ⟨0, q_l04⟩, 42, 0), (.bipush 16, 43, 0), (.iushr, 45, 0), (.iadd, 46, 0), (.istore_n ⟨0, q_l04⟩, 47, 0), (.iload_n ⟨0, q_l04⟩, 48, 0), (.bipush 63, 49, 0), (.iand, 51, 0), (.ireturn, 52, 0)], 53) := rfl
def b_By_change_0 : List (Instr × Nat × Nat) × Nat := ([(.iload_n ⟨1, q_l14⟩, 0, 0), (.ifCond .lt 19, 1, 20), (.iload_n ⟨1, q_l14⟩, 4, 0), (.aload_n ⟨0, q_l04⟩, 5, 0), (.getfield 15, 6, 0), (.if_icmp .ge 11, 9, 20), (.aload_n ⟨0, q_l04⟩, 12, 0), (.getfield 9, 13, 0), (.iload_n ⟨1, q_l14⟩, 16, 0), (.iload_n ⟨2, q_l24⟩, 17, 0), (.i2b, 18, 0), (.bastore, 19, 0)], 20)
def b_By_change_20 : List (Instr × Nat × Nat) × Nat := ([(.return_, 20, 0)], 21)
def B_By_change : q_B := [(0, b_By_change_0), (20, b_By_change_20)]
theorem o_By_change : q_okC M_By_change B_By_change = true := by decide +kernel
theorem u_By_change : q_okM M_By_change = true := by decide +kernel
theorem l_By_change_0 : q_bk B_By_change 0 = some ([(.iload_n ⟨1, q_l14⟩, 0, 0), (.ifCond .lt 19, 1, 20), (.iload_n ⟨1, q_l14⟩, 4, 0), (.aload_n ⟨0, q_l04⟩, 5, 0), (.getfield 15, 6, 0), (.if_icmp .ge 11, 9, 20), (.aload_n ⟨0, q_l04⟩, 12, 0), (.getfield 9, 13, 0), (.iload_n ⟨1, q_l14⟩, 16, 0), (.iload_n ⟨2, q_l24⟩, 17, 0), (.i2b, 18, 0), (.bastore, 19, 0)], 20) := rfl
theorem l_By_change_20 : q_bk B_By_change 20 = some ([(.return_, 20, 0)], 21) := rfl
def b_Ta_s16_0 : List (Instr × Nat × Nat) × Nat := ([(.aload_n ⟨0, q_l04⟩, 0, 0), (.iload_n ⟨1, q_l14⟩, 1, 0), (.invokevirtual 33, 2, 0), (.i2s, 5, 0), (.ireturn, 6, 0)], 7)
def B_Ta_s16 : q_B := [(0, b_Ta_s16_0)]
theorem o_Ta_s16 : q_okC M_Ta_s16 B_Ta_s16 = true := by decide +kernel
theorem u_Ta_s16 : q_okM M_Ta_s16 = true := by decide +kernel
theorem l_Ta_s16_0 : q_bk B_Ta_s16 0 = some ([(.aload_n ⟨0, q_l04⟩, 0, 0), (.iload_n ⟨1, q_l14⟩, 1, 0), (.invokevirtual 33, 2, 0), (.i2s, 5, 0), (.ireturn, 6, 0)], 7) := rfl
end
section
def b_Cm_init_0 : List (Instr × Nat × Nat) × Nat := ([(.aload_n ⟨0, q_l04⟩, 0, 0), (.invokespecial 3, 1, 0), (.aload_n ⟨0, q_l04⟩, 4, 0), (.aload_n ⟨1, q_l14⟩, 5, 0), (.putfield 9, 6, 0), (.aload_n ⟨0, q_l04⟩, 9, 0), (.iconst 0, 10, 0), (.putfield 15, 11, 0), (.aload_n ⟨0, q_l04⟩, 14, 0), (.iconst 0, 15, 0), (.putfield 19, 16, 0), (.aload_n ⟨0, q_l04⟩, 19, 0), (.iconst 0, 20, 0), (.putfield 23, 21, 0), (.return_, 24, 0)], 25)
def B_Cm_init : q_B := [(0, b_Cm_init_0)]
theorem o_Cm_init : q_okC M_Cm_init B_Cm_init = true := by decide +kernel
theorem u_Cm_init : q_okM M_Cm_init = true := by decide +kernel
theorem l_Cm_init_0 : q_bk B_Cm_init 0 = some ([(.aload_n ⟨0, q_l04⟩, 0, 0), (.invokespecial 3, 1, 0), (.aload_n ⟨0, q_l04⟩, 4, 0), (.aload_n ⟨1, q_l14⟩, 5, 0), (.putfield 9, 6, 0), (.aload_n ⟨0, q_l04⟩, 9, 0), (.iconst 0, 10, 0), (.putfield 15, 11, 0), (.aload_n ⟨0, q_l04⟩, 14, 0), (.iconst 0, 15, 0), (.putfield 19, 16, 0), (.aload_n ⟨0, q_l04⟩, 19, 0), (.iconst 0, 20, 0), (.putfield 23, 21, 0), (.return_, 24, 0)], 25) := rfl
def b_Pa_init_0 : List (Instr × Nat × Nat) × Nat := ([(.aload_n ⟨0, q_l04⟩, 0, 0), (.invokespecial 3, 1, 0), (.aload_n ⟨0, q_l04⟩, 4, 0), (.new 9, 5, 0), (.dup, 8, 0), (.aload_n ⟨1, q_l14⟩, 9, 0), (.invokespecial 11, 10, 0), (.putfield 14, 13, 0), (.return_, 16, 0)], 17)
def B_Pa_init : q_B := [(0, b_Pa_init_0)]
theorem o_Pa_init : q_okC M_Pa_init B_Pa_init = true := by decide +kernel
theorem u_Pa_init : q_okM M_Pa_init = true := by decide +kernel
theorem l_Pa_init_0 : q_bk B_Pa_init 0 = some ([(.aload_n ⟨0, q_l04⟩, 0, 0), (.invokespecial 3, 1, 0), (.aload_n ⟨0, q_l04⟩, 4, 0), (.new 9, 5, 0), (.dup, 8, 0), (.aload_n ⟨1, q_l14⟩, 9, 0), (.invokespecial 11, 10, 0), (.putfield 14, 13, 0), (.return_, 16, 0)], 17) := rfl
def b_Cm_isFound_0 : List (Instr × Nat × Nat) × Nat := ([(.aload_n ⟨0, q_l04⟩, 0, 0), (.getfield 9, 1, 0), (.iconst 2, 4, 0), (.invokevirtual 26, 5, 0), (.istore_n ⟨1, q_l14⟩, 8, 0), (.aload_n ⟨0, q_l04⟩, 9, 0), (.getfield 9, 10, 0), (.ldc2_w 32, 13, 0), (.bipush 8, 16, 0), (.iload_n ⟨1, q_l14⟩, 18, 0), (.imul, 19, 0), (.i2l, 20, 0), (.invokevirtual 34, 21, 0), (.ifCond .ne 5, 24, 29), (.iconst 0, 27, 0), (.ireturn, 28, 0)], 29)
def b_Cm_isFound_29 : List (Instr × Nat × Nat) × Nat := ([(.aload_n ⟨0, q_l04⟩, 29, 0), (.iload_n ⟨1, q_l14⟩, 30, 0), (.bipush 10, 31, 0), (.invokevirtual 38, 33, 0), (.istore_n ⟨2, q_l24⟩, 36, 0), (.aload_n ⟨0, q_l04⟩, 37, 0), (.iload_n ⟨2, q_l24⟩, 38, 0), (.iconst (-1), 39, 0), (.if_icmp .eq 7, 40, 47), (.iconst 1, 43, 0), (.goto 4, 44, 48)], 47)
def b_Cm_isFound_47 : List (Instr × Nat × Nat) × Nat := ([(.iconst 0, 47, 0)], 48)
def b_Cm_isFound_48 : List (Instr × Nat × Nat) × Nat := ([(.putfield 15, 48, 0), (.aload_n ⟨0, q_l04⟩, 51, 0), (.getfield 15, 52, 0), (.ifCond .ne 10, 55, 65), (.aload_n ⟨0, q_l04⟩, 58, 0), (.iload_n ⟨1, q_l14⟩, 59, 0), (.iconst 1, 60, 0), (.invokevirtual 38, 61, 0), (.istore_n ⟨2, q_l24⟩, 64, 0)], 65)
def b_Cm_isFound_65 : List (Instr × Nat × Nat) × Nat := ([(.iload_n ⟨2, q_l24⟩, 65, 0), (.iconst (-1), 66, 0), (.if_icmp .eq 25, 67, 92), (.aload_n ⟨0, q_l04⟩, 70, 0), (.getfield 9, 71, 0), (.iload_n ⟨2, q_l24⟩, 74, 0), (.iconst 4, 75, 0), (.iadd, 76, 0), (.invokevirtual 42, 77, 0), (.aload_n ⟨0, q_l04⟩, 80, 0), (.getfield 9, 81, 0), (.getfield 46, 84, 0), (.i2l, 87, 0), (.lcmp, 88, 0), (.ifCond .le 5, 89, 94)], 92)
def b_Cm_isFound_92 : List (Instr × Nat × Nat) × Nat := ([(.iconst 0, 92, 0), (.ireturn, 93, 0)], 94)
def b_Cm_isFound_94 : List (Instr × Nat × Nat) × Nat := ([(.aload_n ⟨0, q_l04⟩, 94, 0), (.aload_n ⟨0, q_l04⟩, 95, 0), (.getfield 9, 96, 0), (.iload_n ⟨2, q_l24⟩, 99, 0), (.iconst 4, 100, 0), (.iadd, 101, 0), (.invokevirtual 42, 102, 0), (.l2i, 105, 0), (.putfield 19, 106, 0), (.aload_n ⟨0, q_l04⟩, 109, 0), (.getfield 15, 110, 0), (.ifCond .eq 10, 113, 123), (.aload_n ⟨0, q_l04⟩, 116, 0), (.invokevirtual 49, 117, 0), (.goto 7, 120, 127)], 123)
def b_Cm_isFound_123 : List (Instr × Nat × Nat) × Nat := ([(.aload_n ⟨0, q_l04⟩, 123, 0), (.invokevirtual 53, 124, 0)], 127)
def b_Cm_isFound_127 : List (Instr × Nat × Nat) × Nat := ([(.ireturn, 127, 0)], 128)
def B_Cm_isFound : q_B := [(0, b_Cm_isFound_0), (29, b_Cm_isFound_29), (47, b_Cm_isFound_47), (48, b_Cm_isFound_48), (65, b_Cm_isFound_65), (92, b_Cm_isFound_92), (94, b_Cm_isFound_94), (123, b_Cm_isFound_123), (127, b_Cm_isFound_127)]
theorem o_Cm_isFound : q_okC M_Cm_isFound B_Cm_isFound = true := by decide +kernel
theorem u_Cm_isFound : q_okM M_Cm_isFound = true := by decide +kernel
theorem l_Cm_isFound_0 : q_bk B_Cm_isFound 0 = some ([(.aload_n ⟨0, q_l04⟩, 0, 0), (.getfield 9, 1, 0), (.iconst 2, 4, 0), (.invokevirtual 26, 5, 0), (.istore_n ⟨1, q_l14⟩, 8, 0), (.aload_n ⟨0, q_l04⟩, 9, 0), (.getfield 9, 10, 0), (.ldc2_w 32, 13, 0), (.bipush 8, 16, 0), (.iload_n ⟨1, q_l14⟩, 18, 0), (.imul, 19, 0), (.i2l, 20, 0), (.invokevirtual 34, 21, 0), (.ifCond .ne 5, 24, 29), (.iconst 0, 27, 0), (.ireturn, 28, 0)], 29) := rfl
theorem l_Cm_isFound_29 : q_bk B_Cm_isFound 29 = some ([(.aload_n ⟨0, q_l04⟩, 29, 0), (.iload_n ⟨1, q_l14⟩, 30, 0), (.bipush 10, 31, 0), (.invokevirtual 38, 33, 0), (.istore_n ⟨2, q_l24⟩, 36, 0), (.aload_n ⟨0, q_l04⟩, 37, 0), (.iload_n ⟨2, q_l24⟩, 38, 0), (.iconst (-1), 39, 0), (.if_icmp .eq 7, 40, 47), (.iconst 1, 43, 0), (.goto 4, 44, 48)], 47) := rfl
theorem l_Cm_isFound_47 : q_bk B_Cm_isFound 47 = some ([(.iconst 0, 47, 0)], 48) := rfl
theorem l_Cm_isFound_48 : q_bk B_Cm_isFound 48 = some ([(.putfield 15, 48, 0), (.aload_n ⟨0, q_l04⟩, 51, 0), (.getfield 15, 52, 0), (.ifCond .ne 10, 55, 65), (.aload_n ⟨0, q_l04⟩, 58, 0), (.iload_n ⟨1, q_l14⟩, 59, 0), (.iconst 1, 60, 0), (.invokevirtual 38, 61, 0), (.istore_n ⟨2, q_l24⟩, 64, 0)], 65) := rfl
theorem l_Cm_isFound_65 : q_bk B_Cm_isFound 65 = some ([(.iload_n ⟨2, q_l24⟩, 65, 0), (.iconst (-1), 66, 0), (.if_icmp .eq 25, 67, 92), (.aload_n ⟨0, q_l04⟩, 70, 0), (.getfield 9, 71, 0), (.iload_n ⟨2, q_l24⟩, 74, 0), (.iconst 4, 75, 0), (.iadd, 76, 0), (.invokevirtual 42, 77, 0), (.aload_n ⟨0, q_l04⟩, 80, 0), (.getfield 9, 81, 0), (.getfield 46, 84, 0), (.i2l, 87, 0), (.lcmp, 88, 0), (.ifCond .le 5, 89, 94)], 92) := rfl
theorem l_Cm_isFound_92 : q_bk B_Cm_isFound 92 = some ([(.iconst 0, 92, 0), (.ireturn, 93, 0)], 94) := rfl
theorem l_Cm_isFound_94 : q_bk B_Cm_isFound 94 = some ([(.aload_n ⟨0, q_l04⟩, 94, 0), (.aload_n ⟨0, q_l04⟩, 95, 0), (.getfield 9, 96, 0), (.iload_n ⟨2, q_l24⟩, 99, 0), (.iconst 4, 100, 0), (.iadd, 101, 0), (.invokevirtual 42, 102, 0), (.l2i, 105, 0), (.putfield 19, 106, 0), (.aload_n ⟨0, q_l04⟩, 109, 0), (.getfield 15, 110, 0), (.ifCond .eq 10, 113, 123), (.aload_n ⟨0, q_l04⟩, 116, 0), (.invokevirtual 49, 117, 0), (.goto 7, 120, 127)], 123) := rfl
theorem l_Cm_isFound_123 : q_bk B_Cm_isFound 123 = some ([(.aload_n ⟨0, q_l04⟩, 123, 0), (.invokevirtual 53, 124, 0)], 127) := rfl
theorem l_Cm_isFound_127 : q_bk B_Cm_isFound 127 = some ([(.ireturn, 127, 0)], 128) := rfl
def b_Cm_firstEntry_0 : List (Instr × Nat × Nat) × Nat := ([(.iconst 0, 0, 0), (.istore_n ⟨3, q_l34⟩, 1, 0)], 2)
def b_Cm_firstEntry_2 : List (Instr × Nat × Nat) × Nat := ([(.iload_n ⟨3, q_l34⟩, 2, 0), (.iload_n ⟨1, q_l14⟩, 3, 0), (.if_icmp .ge 48, 4, 52), (.iconst 4, 7, 0), (.bipush 8, 8, 0), (.iload_n ⟨3, q_l34⟩, 10, 0), (.imul, 11, 0), (.iadd, 12, 0), (.istore 4, 13, 0), (.aload_n ⟨0, q_l04⟩, 15, 0), (.getfield 9, 16, 0), (.iload 4, 19, 0), (.invokevirtual 26, 21, 0), (.iconst 3, 24, 0), (.if_icmp .ne 21, 25, 46), (.aload_n ⟨0, q_l04⟩, 28, 0), (.getfield 9, 29, 0), (.iload 4, 32, 0), (.iconst 2, 34, 0), (.iadd, 35, 0), (.invokevirtual 26, 36, 0), (.iload_n ⟨2, q_l24⟩, 39, 0), (.if_icmp .ne 6, 40, 46), (.iload 4, 43, 0), (.ireturn, 45, 0)], 46)
def b_Cm_firstEntry_46 : List (Instr × Nat × Nat) × Nat := ([(.iinc 3 1, 46, 0), (.goto (-47), 49, 2)], 52)
def b_Cm_firstEntry_52 : List (Instr × Nat × Nat) × Nat := ([(.iconst (-1), 52, 0), (.ireturn, 53, 0)], 54)
def B_Cm_firstEntry : q_B := [(0, b_Cm_firstEntry_0), (2, b_Cm_firstEntry_2), (46, b_Cm_firstEntry_46), (52, b_Cm_firstEntry_52)]
theorem o_Cm_firstEntry : q_okC M_Cm_firstEntry B_Cm_firstEntry = true := by decide +kernel
theorem u_Cm_firstEntry : q_okM M_Cm_firstEntry = true := by decide +kernel
theorem l_Cm_firstEntry_0 : q_bk B_Cm_firstEntry 0 = some ([(.iconst 0, 0, 0), (.istore_n ⟨3, q_l34⟩, 1, 0)], 2) := rfl
theorem l_Cm_firstEntry_2 : q_bk B_Cm_firstEntry 2 = some ([(.iload_n ⟨3, q_l34⟩, 2, 0), (.iload_n ⟨1, q_l14⟩, 3, 0), (.if_icmp .ge 48, 4, 52), (.iconst 4, 7, 0), (.bipush 8, 8, 0), (.iload_n ⟨3, q_l34⟩, 10, 0), (.imul, 11, 0), (.iadd, 12, 0), (.istore 4, 13, 0), (.aload_n ⟨0, q_l04⟩, 15, 0), (.getfield 9, 16, 0), (.iload 4, 19, 0), (.invokevirtual 26, 21, 0), (.iconst 3, 24, 0), (.if_icmp .ne 21, 25, 46), (.aload_n ⟨0, q_l04⟩, 28, 0), (.getfield 9, 29, 0), (.iload 4, 32, 0), (.iconst 2, 34, 0), (.iadd, 35, 0), (.invokevirtual 26, 36, 0), (.iload_n ⟨2, q_l24⟩, 39, 0), (.if_icmp .ne 6, 40, 46), (.iload 4, 43, 0), (.ireturn, 45, 0)], 46) := rfl
theorem l_Cm_firstEntry_46 : q_bk B_Cm_firstEntry 46 = some ([(.iinc 3 1, 46, 0), (.goto (-47), 49, 2)], 52) := rfl
theorem l_Cm_firstEntry_52 : q_bk B_Cm_firstEntry 52 = some ([(.iconst (-1), 52, 0), (.ireturn, 53, 0)], 54) := rfl
def b_Cm_hasGroups_0 : List (Instr × Nat × Nat) × Nat := ([(.aload_n ⟨0, q_l04⟩, 0, 0), (.getfield 9, 1, 0), (.aload_n ⟨0, q_l04⟩, 4, 0), (.getfield 19, 5, 0), (.i2l, 8, 0), (.ldc2_w 56, 9, 0), (.invokevirtual 34, 12, 0), (.ifCond .eq 19, 15, 34), (.aload_n ⟨0, q_l04⟩, 18, 0), (.getfield 9, 19, 0), (.aload_n ⟨0, q_l04⟩, 22, 0), (.getfield 19, 23, 0), (.invokevirtual 26, 26, 0), (.bipush 12, 29, 0), (.if_icmp .eq 5, 31, 36)], 34)
def b_Cm_hasGroups_34 : List (Instr × Nat × Nat) × Nat := ([(.iconst 0, 34, 0), (.ireturn, 35, 0)], 36)
def b_Cm_hasGroups_36 : List (Instr × Nat × Nat) × Nat := ([(.aload_n ⟨0, q_l04⟩, 36, 0), (.getfield 9, 37, 0), (.aload_n ⟨0, q_l04⟩, 40, 0), (.getfield 19, 41, 0), (.bipush 12, 44, 0), (.iadd, 46, 0), (.invokevirtual 42, 47, 0), (.lstore_n ⟨1, q_l14⟩, 50, 0), (.aload_n ⟨0, q_l04⟩, 51, 0), (.getfield 9, 52, 0), (.aload_n ⟨0, q_l04⟩, 55, 0), (.getfield 19, 56, 0), (.bipush 16, 59, 0), (.iadd, 61, 0), (.i2l, 62, 0), (.ldc2_w 58, 63, 0), (.lload_n ⟨1, q_l14⟩, 66, 0), (.lmul, 67, 0), (.invokevirtual 34, 68, 0), (.ifCond .ne 5, 71, 76), (.iconst 0, 74, 0), (.ireturn, 75, 0)], 76)
def b_Cm_hasGroups_76 : List (Instr × Nat × Nat) × Nat := ([(.aload_n ⟨0, q_l04⟩, 76, 0), (.lload_n ⟨1, q_l14⟩, 77, 0), (.l2i, 78, 0), (.putfield 23, 79, 0), (.ldc2_w 60, 82, 0), (.lstore_n ⟨3, q_l34⟩, 85, 0), (.iconst 0, 86, 0), (.istore 5, 87, 0)], 89)
def b_Cm_hasGroups_89 : List (Instr × Nat × Nat) × Nat := ([(.iload 5, 89, 0), (.aload_n ⟨0, q_l04⟩, 91, 0), (.getfield 23, 92, 0), (.if_icmp .ge 68, 95, 163), (.aload_n ⟨0, q_l04⟩, 98, 0), (.getfield 19, 99, 0), (.bipush 16, 102, 0), (.iadd, 104, 0), (.bipush 12, 105, 0), (.iload 5, 107, 0), (.imul, 109, 0), (.iadd, 110, 0), (.istore 6, 111, 0), (.aload_n ⟨0, q_l04⟩, 113, 0), (.getfield 9, 114, 0), (.iload 6, 117, 0), (.invokevirtual 42, 119, 0), (.lstore 7, 122, 0), (.aload_n ⟨0, q_l04⟩, 124, 0), (.getfield 9, 125, 0), (.iload 6, 128, 0), (.iconst 4, 130, 0), (.iadd, 131, 0), (.invokevirtual 42, 132, 0), (.lstore 9, 135, 0), (.lload 7, 137, 0), (.lload_n ⟨3, q_l34⟩, 139, 0), (.lcmp, 140, 0), (.ifCond .le 11, 141, 152), (.lload 9, 144, 0), (.lload 7, 146, 0), (.lcmp, 148, 0), (.ifCond .ge 5, 149, 154)], 152)
def b_Cm_hasGroups_152 : List (Instr × Nat × Nat) × Nat := ([(.iconst 0, 152, 0), (.ireturn, 153, 0)], 154)
def b_Cm_hasGroups_154 : List (Instr × Nat × Nat) × Nat := ([(.lload 9, 154, 0), (.lstore_n ⟨3, q_l34⟩, 156, 0), (.iinc 5 1, 157, 0), (.goto (-71), 160, 89)], 163)
def b_Cm_hasGroups_163 : List (Instr × Nat × Nat) × Nat := ([(.lload_n ⟨3, q_l34⟩, 163, 0), (.ldc2_w 62, 164, 0), (.lcmp, 167, 0), (.ifCond .gt 7, 168, 175), (.iconst 1, 171, 0), (.goto 4, 172, 176)], 175)
def b_Cm_hasGroups_175 : List (Instr × Nat × Nat) × Nat := ([(.iconst 0, 175, 0)], 176)
def b_Cm_hasGroups_176 : List (Instr × Nat × Nat) × Nat := ([(.ireturn, 176, 0)], 177)
def B_Cm_hasGroups : q_B := [(0, b_Cm_hasGroups_0), (34, b_Cm_hasGroups_34), (36, b_Cm_hasGroups_36), (76, b_Cm_hasGroups_76), (89, b_Cm_hasGroups_89), (152, b_Cm_hasGroups_152), (154, b_Cm_hasGroups_154), (163, b_Cm_hasGroups_163), (175, b_Cm_hasGroups_175), (176, b_Cm_hasGroups_176)]
theorem o_Cm_hasGroups : q_okC M_Cm_hasGroups B_Cm_hasGroups = true := by decide +kernel
theorem u_Cm_hasGroups : q_okM M_Cm_hasGroups = true := by decide +kernel
theorem l_Cm_hasGroups_0 : q_bk B_Cm_hasGroups 0 = some ([(.aload_n ⟨0, q_l04⟩, 0, 0), (.getfield 9, 1, 0), (.aload_n ⟨0, q_l04⟩, 4, 0), (.getfield 19, 5, 0), (.i2l, 8, 0), (.ldc2_w 56, 9, 0), (.invokevirtual 34, 12, 0), (.ifCond .eq 19, 15, 34), (.aload_n ⟨0, q_l04⟩, 18, 0), (.getfield 9, 19, 0), (.aload_n ⟨0, q_l04⟩, 22, 0), (.getfield 19, 23, 0), (.invokevirtual 26, 26, 0), (.bipush 12, 29, 0), (.if_icmp .eq 5, 31, 36)], 34) := rfl
theorem l_Cm_hasGroups_34 : q_bk B_Cm_hasGroups 34 = some ([(.iconst 0, 34, 0), (.ireturn, 35, 0)], 36) := rfl
theorem l_Cm_hasGroups_36 : q_bk B_Cm_hasGroups 36 = some ([(.aload_n ⟨0, q_l04⟩, 36, 0), (.getfield 9, 37, 0), (.aload_n ⟨0, q_l04⟩, 40, 0), (.getfield 19, 41, 0), (.bipush 12, 44, 0), (.iadd, 46, 0), (.invokevirtual 42, 47, 0), (.lstore_n ⟨1, q_l14⟩, 50, 0), (.aload_n ⟨0, q_l04⟩, 51, 0), (.getfield 9, 52, 0), (.aload_n ⟨0, q_l04⟩, 55, 0), (.getfield 19, 56, 0), (.bipush 16, 59, 0), (.iadd, 61, 0), (.i2l, 62, 0), (.ldc2_w 58, 63, 0), (.lload_n ⟨1, q_l14⟩, 66, 0), (.lmul, 67, 0), (.invokevirtual 34, 68, 0), (.ifCond .ne 5, 71, 76), (.iconst 0, 74, 0), (.ireturn, 75, 0)], 76) := rfl
theorem l_Cm_hasGroups_76 : q_bk B_Cm_hasGroups 76 = some ([(.aload_n ⟨0, q_l04⟩, 76, 0), (.lload_n ⟨1, q_l14⟩, 77, 0), (.l2i, 78, 0), (.putfield 23, 79, 0), (.ldc2_w 60, 82, 0), (.lstore_n ⟨3, q_l34⟩, 85, 0), (.iconst 0, 86, 0), (.istore 5, 87, 0)], 89) := rfl
theorem l_Cm_hasGroups_89 : q_bk B_Cm_hasGroups 89 = some ([(.iload 5, 89, 0), (.aload_n ⟨0, q_l04⟩, 91, 0), (.getfield 23, 92, 0), (.if_icmp .ge 68, 95, 163), (.aload_n ⟨0, q_l04⟩, 98, 0), (.getfield 19, 99, 0), (.bipush 16, 102, 0), (.iadd, 104, 0), (.bipush 12, 105, 0), (.iload 5, 107, 0), (.imul, 109, 0), (.iadd, 110, 0), (.istore 6, 111, 0), (.aload_n ⟨0, q_l04⟩, 113, 0), (.getfield 9, 114, 0), (.iload 6, 117, 0), (.invokevirtual 42, 119, 0), (.lstore 7, 122, 0), (.aload_n ⟨0, q_l04⟩, 124, 0), (.getfield 9, 125, 0), (.iload 6, 128, 0), (.iconst 4, 130, 0), (.iadd, 131, 0), (.invokevirtual 42, 132, 0), (.lstore 9, 135, 0), (.lload 7, 137, 0), (.lload_n ⟨3, q_l34⟩, 139, 0), (.lcmp, 140, 0), (.ifCond .le 11, 141, 152), (.lload 9, 144, 0), (.lload 7, 146, 0), (.lcmp, 148, 0), (.ifCond .ge 5, 149, 154)], 152) := rfl
theorem l_Cm_hasGroups_152 : q_bk B_Cm_hasGroups 152 = some ([(.iconst 0, 152, 0), (.ireturn, 153, 0)], 154) := rfl
theorem l_Cm_hasGroups_154 : q_bk B_Cm_hasGroups 154 = some ([(.lload 9, 154, 0), (.lstore_n ⟨3, q_l34⟩, 156, 0), (.iinc 5 1, 157, 0), (.goto (-71), 160, 89)], 163) := rfl
theorem l_Cm_hasGroups_163 : q_bk B_Cm_hasGroups 163 = some ([(.lload_n ⟨3, q_l34⟩, 163, 0), (.ldc2_w 62, 164, 0), (.lcmp, 167, 0), (.ifCond .gt 7, 168, 175), (.iconst 1, 171, 0), (.goto 4, 172, 176)], 175) := rfl
theorem l_Cm_hasGroups_175 : q_bk B_Cm_hasGroups 175 = some ([(.iconst 0, 175, 0)], 176) := rfl
theorem l_Cm_hasGroups_176 : q_bk B_Cm_hasGroups 176 = some ([(.ireturn, 176, 0)], 177) := rfl
def b_Cm_hasSegments_0 : List (Instr × Nat × Nat) × Nat := ([(.aload_n ⟨0, q_l04⟩, 0, 0), (.getfield 9, 1, 0), (.aload_n ⟨0, q_l04⟩, 4, 0), (.getfield 19, 5, 0), (.i2l, 8, 0), (.ldc2_w 56, 9, 0), (.invokevirtual 34, 12, 0), (.ifCond .eq 18, 15, 33), (.aload_n ⟨0, q_l04⟩, 18, 0), (.getfield 9, 19, 0), (.aload_n ⟨0, q_l04⟩, 22, 0), (.getfield 19, 23, 0), (.invokevirtual 26, 26, 0), (.iconst 4, 29, 0), (.if_icmp .eq 5, 30, 35)], 33)
def b_Cm_hasSegments_33 : List (Instr × Nat × Nat) × Nat := ([(.iconst 0, 33, 0), (.ireturn, 34, 0)], 35)
def b_Cm_hasSegments_35 : List (Instr × Nat × Nat) × Nat := ([(.aload_n ⟨0, q_l04⟩, 35, 0), (.getfield 9, 36, 0), (.aload_n ⟨0, q_l04⟩, 39, 0), (.getfield 19, 40, 0), (.bipush 6, 43, 0), (.iadd, 45, 0), (.invokevirtual 26, 46, 0), (.istore_n ⟨1, q_l14⟩, 49, 0), (.iload_n ⟨1, q_l14⟩, 50, 0), (.iconst 2, 51, 0), (.if_icmp .lt 31, 52, 83), (.iload_n ⟨1, q_l14⟩, 55, 0), (.iconst 2, 56, 0), (.irem, 57, 0), (.ifCond .ne 25, 58, 83), (.aload_n ⟨0, q_l04⟩, 61, 0), (.getfield 9, 62, 0), (.aload_n ⟨0, q_l04⟩, 65, 0), (.getfield 19, 66, 0), (.i2l, 69, 0), (.bipush 16, 70, 0), (.iconst 4, 72, 0), (.iload_n ⟨1, q_l14⟩, 73, 0), (.imul, 74, 0), (.iadd, 75, 0), (.i2l, 76, 0), (.invokevirtual 34, 77, 0), (.ifCond .ne 5, 80, 85)], 83)
def b_Cm_hasSegments_83 : List (Instr × Nat × Nat) × Nat := ([(.iconst 0, 83, 0), (.ireturn, 84, 0)], 85)
def b_Cm_hasSegments_85 : List (Instr × Nat × Nat) × Nat := ([(.aload_n ⟨0, q_l04⟩, 85, 0), (.iload_n ⟨1, q_l14⟩, 86, 0), (.iconst 2, 87, 0), (.idiv, 88, 0), (.putfield 23, 89, 0), (.iconst (-1), 92, 0), (.istore_n ⟨2, q_l24⟩, 93, 0), (.iconst 0, 94, 0), (.istore_n ⟨3, q_l34⟩, 95, 0)], 96)
def b_Cm_hasSegments_96 : List (Instr × Nat × Nat) × Nat := ([(.iload_n ⟨3, q_l34⟩, 96, 0), (.aload_n ⟨0, q_l04⟩, 97, 0), (.getfield 23, 98, 0), (.if_icmp .ge 37, 101, 138), (.aload_n ⟨0, q_l04⟩, 104, 0), (.iload_n ⟨3, q_l34⟩, 105, 0), (.invokevirtual 64, 106, 0), (.istore 4, 109, 0), (.iload 4, 111, 0), (.iload_n ⟨2, q_l24⟩, 113, 0), (.if_icmp .le 13, 114, 127), (.aload_n ⟨0, q_l04⟩, 117, 0), (.iload_n ⟨3, q_l34⟩, 118, 0), (.invokevirtual 67, 119, 0), (.iload 4, 122, 0), (.if_icmp .le 5, 124, 129)], 127)
def b_Cm_hasSegments_127 : List (Instr × Nat × Nat) × Nat := ([(.iconst 0, 127, 0), (.ireturn, 128, 0)], 129)
def b_Cm_hasSegments_129 : List (Instr × Nat × Nat) × Nat := ([(.iload 4, 129, 0), (.istore_n ⟨2, q_l24⟩, 131, 0), (.iinc 3 1, 132, 0), (.goto (-39), 135, 96)], 138)
def b_Cm_hasSegments_138 : List (Instr × Nat × Nat) × Nat := ([(.iload_n ⟨2, q_l24⟩, 138, 0), (.ldc 70, 139, 0), (.if_icmp .ne 7, 141, 148), (.iconst 1, 144, 0), (.goto 4, 145, 149)], 148)
def b_Cm_hasSegments_148 : List (Instr × Nat × Nat) × Nat := ([(.iconst 0, 148, 0)], 149)
def b_Cm_hasSegments_149 : List (Instr × Nat × Nat) × Nat := ([(.ireturn, 149, 0)], 150)
def B_Cm_hasSegments : q_B := [(0, b_Cm_hasSegments_0), (33, b_Cm_hasSegments_33), (35, b_Cm_hasSegments_35), (83, b_Cm_hasSegments_83), (85, b_Cm_hasSegments_85), (96, b_Cm_hasSegments_96), (127, b_Cm_hasSegments_127), (129, b_Cm_hasSegments_129), (138, b_Cm_hasSegments_138), (148, b_Cm_hasSegments_148), (149, b_Cm_hasSegments_149)]
theorem o_Cm_hasSegments : q_okC M_Cm_hasSegments B_Cm_hasSegments = true := by decide +kernel
theorem u_Cm_hasSegments : q_okM M_Cm_hasSegments = true := by decide +kernel
theorem l_Cm_hasSegments_0 : q_bk B_Cm_hasSegments 0 = some ([(.aload_n ⟨0, q_l04⟩, 0, 0), (.getfield 9, 1, 0), (.aload_n ⟨0, q_l04⟩, 4, 0), (.getfield 19, 5, 0), (.i2l, 8, 0), (.ldc2_w 56, 9, 0), (.invokevirtual 34, 12, 0), (.ifCond .eq 18, 15, 33), (.aload_n ⟨0, q_l04⟩, 18, 0), (.getfield 9, 19, 0), (.aload_n ⟨0, q_l04⟩, 22, 0), (.getfield 19, 23, 0), (.invokevirtual 26, 26, 0), (.iconst 4, 29, 0), (.if_icmp .eq 5, 30, 35)], 33) := rfl
theorem l_Cm_hasSegments_33 : q_bk B_Cm_hasSegments 33 = some ([(.iconst 0, 33, 0), (.ireturn, 34, 0)], 35) := rfl
theorem l_Cm_hasSegments_35 : q_bk B_Cm_hasSegments 35 = some ([(.aload_n ⟨0, q_l04⟩, 35, 0), (.getfield 9, 36, 0), (.aload_n ⟨0, q_l04⟩, 39, 0), (.getfield 19, 40, 0), (.bipush 6, 43, 0), (.iadd, 45, 0), (.invokevirtual 26, 46, 0), (.istore_n ⟨1, q_l14⟩, 49, 0), (.iload_n ⟨1, q_l14⟩, 50, 0), (.iconst 2, 51, 0), (.if_icmp .lt 31, 52, 83), (.iload_n ⟨1, q_l14⟩, 55, 0), (.iconst 2, 56, 0), (.irem, 57, 0), (.ifCond .ne 25, 58, 83), (.aload_n ⟨0, q_l04⟩, 61, 0), (.getfield 9, 62, 0), (.aload_n ⟨0, q_l04⟩, 65, 0), (.getfield 19, 66, 0), (.i2l, 69, 0), (.bipush 16, 70, 0), (.iconst 4, 72, 0), (.iload_n ⟨1, q_l14⟩, 73, 0), (.imul, 74, 0), (.iadd, 75, 0), (.i2l, 76, 0), (.invokevirtual 34, 77, 0), (.ifCond .ne 5, 80, 85)], 83) := rfl
theorem l_Cm_hasSegments_83 : q_bk B_Cm_hasSegments 83 = some ([(.iconst 0, 83, 0), (.ireturn, 84, 0)], 85) := rfl
theorem l_Cm_hasSegments_85 : q_bk B_Cm_hasSegments 85 = some ([(.aload_n ⟨0, q_l04⟩, 85, 0), (.iload_n ⟨1, q_l14⟩, 86, 0), (.iconst 2, 87, 0), (.idiv, 88, 0), (.putfield 23, 89, 0), (.iconst (-1), 92, 0), (.istore_n ⟨2, q_l24⟩, 93, 0), (.iconst 0, 94, 0), (.istore_n ⟨3, q_l34⟩, 95, 0)], 96) := rfl
theorem l_Cm_hasSegments_96 : q_bk B_Cm_hasSegments 96 = some ([(.iload_n ⟨3, q_l34⟩, 96, 0), (.aload_n ⟨0, q_l04⟩, 97, 0), (.getfield 23, 98, 0), (.if_icmp .ge 37, 101, 138), (.aload_n ⟨0, q_l04⟩, 104, 0), (.iload_n ⟨3, q_l34⟩, 105, 0), (.invokevirtual 64, 106, 0), (.istore 4, 109, 0), (.iload 4, 111, 0), (.iload_n ⟨2, q_l24⟩, 113, 0), (.if_icmp .le 13, 114, 127), (.aload_n ⟨0, q_l04⟩, 117, 0), (.iload_n ⟨3, q_l34⟩, 118, 0), (.invokevirtual 67, 119, 0), (.iload 4, 122, 0), (.if_icmp .le 5, 124, 129)], 127) := rfl
theorem l_Cm_hasSegments_127 : q_bk B_Cm_hasSegments 127 = some ([(.iconst 0, 127, 0), (.ireturn, 128, 0)], 129) := rfl
theorem l_Cm_hasSegments_129 : q_bk B_Cm_hasSegments 129 = some ([(.iload 4, 129, 0), (.istore_n ⟨2, q_l24⟩, 131, 0), (.iinc 3 1, 132, 0), (.goto (-39), 135, 96)], 138) := rfl
theorem l_Cm_hasSegments_138 : q_bk B_Cm_hasSegments 138 = some ([(.iload_n ⟨2, q_l24⟩, 138, 0), (.ldc 70, 139, 0), (.if_icmp .ne 7, 141, 148), (.iconst 1, 144, 0), (.goto 4, 145, 149)], 148) := rfl
theorem l_Cm_hasSegments_148 : q_bk B_Cm_hasSegments 148 = some ([(.iconst 0, 148, 0)], 149) := rfl
theorem l_Cm_hasSegments_149 : q_bk B_Cm_hasSegments 149 = some ([(.ireturn, 149, 0)], 150) := rfl
def b_Cm_lastOf_0 : List (Instr × Nat × Nat) × Nat := ([(.aload_n ⟨0, q_l04⟩, 0, 0), (.getfield 9, 1, 0), (.aload_n ⟨0, q_l04⟩, 4, 0), (.getfield 19, 5, 0), (.bipush 14, 8, 0), (.iadd, 10, 0), (.iconst 2, 11, 0), (.iload_n ⟨1, q_l14⟩, 12, 0), (.imul, 13, 0), (.iadd, 14, 0), (.invokevirtual 26, 15, 0), (.ireturn, 18, 0)], 19)
def B_Cm_lastOf : q_B := [(0, b_Cm_lastOf_0)]
theorem o_Cm_lastOf : q_okC M_Cm_lastOf B_Cm_lastOf = true := by decide +kernel
theorem u_Cm_lastOf : q_okM M_Cm_lastOf = true := by decide +kernel
theorem l_Cm_lastOf_0 : q_bk B_Cm_lastOf 0 = some ([(.aload_n ⟨0, q_l04⟩, 0, 0), (.getfield 9, 1, 0), (.aload_n ⟨0, q_l04⟩, 4, 0), (.getfield 19, 5, 0), (.bipush 14, 8, 0), (.iadd, 10, 0), (.iconst 2, 11, 0), (.iload_n ⟨1, q_l14⟩, 12, 0), (.imul, 13, 0), (.iadd, 14, 0), (.invokevirtual 26, 15, 0), (.ireturn, 18, 0)], 19) := rfl
def b_Cm_firstOf_0 : List (Instr × Nat × Nat) × Nat := ([(.aload_n ⟨0, q_l04⟩, 0, 0), (.getfield 9, 1, 0), (.aload_n ⟨0, q_l04⟩, 4, 0), (.getfield 19, 5, 0), (.bipush 16, 8, 0), (.iadd, 10, 0), (.iconst 2, 11, 0), (.aload_n ⟨0, q_l04⟩, 12, 0), (.getfield 23, 13, 0), (.imul, 16, 0), (.iadd, 17, 0), (.iconst 2, 18, 0), (.iload_n ⟨1, q_l14⟩, 19, 0), (.imul, 20, 0), (.iadd, 21, 0), (.invokevirtual 26, 22, 0), (.ireturn, 25, 0)], 26)
def B_Cm_firstOf : q_B := [(0, b_Cm_firstOf_0)]
theorem o_Cm_firstOf : q_okC M_Cm_firstOf B_Cm_firstOf = true := by decide +kernel
theorem u_Cm_firstOf : q_okM M_Cm_firstOf = true := by decide +kernel
theorem l_Cm_firstOf_0 : q_bk B_Cm_firstOf 0 = some ([(.aload_n ⟨0, q_l04⟩, 0, 0), (.getfield 9, 1, 0), (.aload_n ⟨0, q_l04⟩, 4, 0), (.getfield 19, 5, 0), (.bipush 16, 8, 0), (.iadd, 10, 0), (.iconst 2, 11, 0), (.aload_n ⟨0, q_l04⟩, 12, 0), (.getfield 23, 13, 0), (.imul, 16, 0), (.iadd, 17, 0), (.iconst 2, 18, 0), (.iload_n ⟨1, q_l14⟩, 19, 0), (.imul, 20, 0), (.iadd, 21, 0), (.invokevirtual 26, 22, 0), (.ireturn, 25, 0)], 26) := rfl
def b_Pa_isRead_0 : List (Instr × Nat × Nat) × Nat := ([(.aload_n ⟨0, q_l04⟩, 0, 0), (.aload_n ⟨0, q_l04⟩, 1, 0), (.getfield 14, 2, 0), (.invokevirtual 24, 5, 0), (.putfield 20, 8, 0), (.aload_n ⟨0, q_l04⟩, 11, 0), (.aload_n ⟨0, q_l04⟩, 12, 0), (.getfield 14, 13, 0), (.invokevirtual 24, 16, 0), (.putfield 28, 19, 0), (.aload_n ⟨0, q_l04⟩, 22, 0), (.aload_n ⟨0, q_l04⟩, 23, 0), (.invokevirtual 31, 24, 0), (.putfield 34, 27, 0), (.aload_n ⟨0, q_l04⟩, 30, 0), (.aload_n ⟨0, q_l04⟩, 31, 0), (.invokevirtual 31, 32, 0), (.putfield 37, 35, 0), (.aload_n ⟨0, q_l04⟩, 38, 0), (.invokevirtual 40, 39, 0), (.aload_n ⟨0, q_l04⟩, 42, 0), (.getfield 14, 43, 0), (.getfield 43, 46, 0), (.ifCond .ne 22, 49, 71), (.aload_n ⟨0, q_l04⟩, 52, 0), (.getfield 20, 53, 0), (.sipush 200, 56, 0), (.iand, 59, 0), (.invokestatic 47, 60, 0), (.iconst 1, 63, 0), (.if_icmp .gt 7, 64, 71), (.iconst 1, 67, 0), (.goto 4, 68, 72)], 71)
def b_Pa_isRead_71 : List (Instr × Nat × Nat) × Nat := ([(.iconst 0, 71, 0)], 72)
def b_Pa_isRead_72 : List (Instr × Nat × Nat) × Nat := ([(.ireturn, 72, 0)], 73)
def B_Pa_isRead : q_B := [(0, b_Pa_isRead_0), (71, b_Pa_isRead_71), (72, b_Pa_isRead_72)]
theorem o_Pa_isRead : q_okC M_Pa_isRead B_Pa_isRead = true := by decide +kernel
theorem u_Pa_isRead : q_okM M_Pa_isRead = true := by decide +kernel
theorem l_Pa_isRead_0 : q_bk B_Pa_isRead 0 = some ([(.aload_n ⟨0, q_l04⟩, 0, 0), (.aload_n ⟨0, q_l04⟩, 1, 0), (.getfield 14, 2, 0), (.invokevirtual 24, 5, 0), (.putfield 20, 8, 0), (.aload_n ⟨0, q_l04⟩, 11, 0), (.aload_n ⟨0, q_l04⟩, 12, 0), (.getfield 14, 13, 0), (.invokevirtual 24, 16, 0), (.putfield 28, 19, 0), (.aload_n ⟨0, q_l04⟩, 22, 0), (.aload_n ⟨0, q_l04⟩, 23, 0), (.invokevirtual 31, 24, 0), (.putfield 34, 27, 0), (.aload_n ⟨0, q_l04⟩, 30, 0), (.aload_n ⟨0, q_l04⟩, 31, 0), (.invokevirtual 31, 32, 0), (.putfield 37, 35, 0), (.aload_n ⟨0, q_l04⟩, 38, 0), (.invokevirtual 40, 39, 0), (.aload_n ⟨0, q_l04⟩, 42, 0), (.getfield 14, 43, 0), (.getfield 43, 46, 0), (.ifCond .ne 22, 49, 71), (.aload_n ⟨0, q_l04⟩, 52, 0), (.getfield 20, 53, 0), (.sipush 200, 56, 0), (.iand, 59, 0), (.invokestatic 47, 60, 0), (.iconst 1, 63, 0), (.if_icmp .gt 7, 64, 71), (.iconst 1, 67, 0), (.goto 4, 68, 72)], 71) := rfl
theorem l_Pa_isRead_71 : q_bk B_Pa_isRead 71 = some ([(.iconst 0, 71, 0)], 72) := rfl
theorem l_Pa_isRead_72 : q_bk B_Pa_isRead 72 = some ([(.ireturn, 72, 0)], 73) := rfl
def b_Pa_number_0 : List (Instr × Nat × Nat) × Nat := ([(.aload_n ⟨0, q_l04⟩, 0, 0), (.iconst 1, 1, 0), (.invokevirtual 53, 2, 0), (.ifCond .eq 26, 5, 31), (.aload_n ⟨0, q_l04⟩, 8, 0), (.getfield 14, 9, 0), (.invokevirtual 24, 12, 0), (.istore_n ⟨1, q_l14⟩, 15, 0), (.aload_n ⟨0, q_l04⟩, 16, 0), (.iconst 2, 17, 0), (.invokevirtual 53, 18, 0), (.ifCond .eq 8, 21, 29), (.iload_n ⟨1, q_l14⟩, 24, 0), (.i2s, 25, 0), (.goto 4, 26, 30)], 29)
def b_Pa_number_29 : List (Instr × Nat × Nat) × Nat := ([(.iload_n ⟨1, q_l14⟩, 29, 0)], 30)
def b_Pa_number_30 : List (Instr × Nat × Nat) × Nat := ([(.ireturn, 30, 0)], 31)
def b_Pa_number_31 : List (Instr × Nat × Nat) × Nat := ([(.aload_n ⟨0, q_l04⟩, 31, 0), (.getfield 14, 32, 0), (.invokevirtual 57, 35, 0), (.istore_n ⟨1, q_l14⟩, 38, 0), (.aload_n ⟨0, q_l04⟩, 39, 0), (.iconst 2, 40, 0), (.invokevirtual 53, 41, 0), (.ifCond .eq 8, 44, 52), (.iload_n ⟨1, q_l14⟩, 47, 0), (.i2b, 48, 0), (.goto 4, 49, 53)], 52)
def b_Pa_number_52 : List (Instr × Nat × Nat) × Nat := ([(.iload_n ⟨1, q_l14⟩, 52, 0)], 53)
def b_Pa_number_53 : List (Instr × Nat × Nat) × Nat := ([(.ireturn, 53, 0)], 54)
def B_Pa_number : q_B := [(0, b_Pa_number_0), (29, b_Pa_number_29), (30, b_Pa_number_30), (31, b_Pa_number_31), (52, b_Pa_number_52), (53, b_Pa_number_53)]
theorem o_Pa_number : q_okC M_Pa_number B_Pa_number = true := by decide +kernel
theorem u_Pa_number : q_okM M_Pa_number = true := by decide +kernel
theorem l_Pa_number_0 : q_bk B_Pa_number 0 = some ([(.aload_n ⟨0, q_l04⟩, 0, 0), (.iconst 1, 1, 0), (.invokevirtual 53, 2, 0), (.ifCond .eq 26, 5, 31), (.aload_n ⟨0, q_l04⟩, 8, 0), (.getfield 14, 9, 0), (.invokevirtual 24, 12, 0), (.istore_n ⟨1, q_l14⟩, 15, 0), (.aload_n ⟨0, q_l04⟩, 16, 0), (.iconst 2, 17, 0), (.invokevirtual 53, 18, 0), (.ifCond .eq 8, 21, 29), (.iload_n ⟨1, q_l14⟩, 24, 0), (.i2s, 25, 0), (.goto 4, 26, 30)], 29) := rfl
theorem l_Pa_number_29 : q_bk B_Pa_number 29 = some ([(.iload_n ⟨1, q_l14⟩, 29, 0)], 30) := rfl
theorem l_Pa_number_30 : q_bk B_Pa_number 30 = some ([(.ireturn, 30, 0)], 31) := rfl
theorem l_Pa_number_31 : q_bk B_Pa_number 31 = some ([(.aload_n ⟨0, q_l04⟩, 31, 0), (.getfield 14, 32, 0), (.invokevirtual 57, 35, 0), (.istore_n ⟨1, q_l14⟩, 38, 0), (.aload_n ⟨0, q_l04⟩, 39, 0), (.iconst 2, 40, 0), (.invokevirtual 53, 41, 0), (.ifCond .eq 8, 44, 52), (.iload_n ⟨1, q_l14⟩, 47, 0), (.i2b, 48, 0), (.goto 4, 49, 53)], 52) := rfl
theorem l_Pa_number_52 : q_bk B_Pa_number 52 = some ([(.iload_n ⟨1, q_l14⟩, 52, 0)], 53) := rfl
theorem l_Pa_number_53 : q_bk B_Pa_number 53 = some ([(.ireturn, 53, 0)], 54) := rfl
def b_Pa_has_0 : List (Instr × Nat × Nat) × Nat := ([(.aload_n ⟨0, q_l04⟩, 0, 0), (.getfield 20, 1, 0), (.iload_n ⟨1, q_l14⟩, 4, 0), (.iand, 5, 0), (.ifCond .eq 7, 6, 13), (.iconst 1, 9, 0), (.goto 4, 10, 14)], 13)
def b_Pa_has_13 : List (Instr × Nat × Nat) × Nat := ([(.iconst 0, 13, 0)], 14)
def b_Pa_has_14 : List (Instr × Nat × Nat) × Nat := ([(.ireturn, 14, 0)], 15)
def B_Pa_has : q_B := [(0, b_Pa_has_0), (13, b_Pa_has_13), (14, b_Pa_has_14)]
theorem o_Pa_has : q_okC M_Pa_has B_Pa_has = true := by decide +kernel
theorem u_Pa_has : q_okM M_Pa_has = true := by decide +kernel
theorem l_Pa_has_0 : q_bk B_Pa_has 0 = some ([(.aload_n ⟨0, q_l04⟩, 0, 0), (.getfield 20, 1, 0), (.iload_n ⟨1, q_l14⟩, 4, 0), (.iand, 5, 0), (.ifCond .eq 7, 6, 13), (.iconst 1, 9, 0), (.goto 4, 10, 14)], 13) := rfl
theorem l_Pa_has_13 : q_bk B_Pa_has 13 = some ([(.iconst 0, 13, 0)], 14) := rfl
theorem l_Pa_has_14 : q_bk B_Pa_has 14 = some ([(.ireturn, 14, 0)], 15) := rfl
def b_Pa_readFactors_0 : List (Instr × Nat × Nat) × Nat := ([(.aload_n ⟨0, q_l04⟩, 0, 0), (.sipush 16384, 1, 0), (.putfield 60, 4, 0), (.aload_n ⟨0, q_l04⟩, 7, 0), (.iconst 0, 8, 0), (.putfield 63, 9, 0), (.aload_n ⟨0, q_l04⟩, 12, 0), (.iconst 0, 13, 0), (.putfield 66, 14, 0), (.aload_n ⟨0, q_l04⟩, 17, 0), (.sipush 16384, 18, 0), (.putfield 69, 21, 0), (.aload_n ⟨0, q_l04⟩, 24, 0), (.bipush 8, 25, 0), (.invokevirtual 53, 27, 0), (.ifCond .eq 26, 30, 56), (.aload_n ⟨0, q_l04⟩, 33, 0), (.aload_n ⟨0, q_l04⟩, 34, 0), (.getfield 14, 35, 0), (.invokevirtual 24, 38, 0), (.i2s, 41, 0), (.putfield 60, 42, 0), (.aload_n ⟨0, q_l04⟩, 45, 0), (.aload_n ⟨0, q_l04⟩, 46, 0), (.getfield 60, 47, 0), (.putfield 69, 50, 0), (.goto 97, 53, 150)], 56)
def b_Pa_readFactors_56 : List (Instr × Nat × Nat) × Nat := ([(.aload_n ⟨0, q_l04⟩, 56, 0), (.bipush 64, 57, 0), (.invokevirtual 53, 59, 0), (.ifCond .eq 30, 62, 92), (.aload_n ⟨0, q_l04⟩, 65, 0), (.aload_n ⟨0, q_l04⟩, 66, 0), (.getfield 14, 67, 0), (.invokevirtual 24, 70, 0), (.i2s, 73, 0), (.putfield 60, 74, 0), (.aload_n ⟨0, q_l04⟩, 77, 0), (.aload_n ⟨0, q_l04⟩, 78, 0), (.getfield 14, 79, 0), (.invokevirtual 24, 82, 0), (.i2s, 85, 0), (.putfield 69, 86, 0), (.goto 61, 89, 150)], 92)
def b_Pa_readFactors_92 : List (Instr × Nat × Nat) × Nat := ([(.aload_n ⟨0, q_l04⟩, 92, 0), (.sipush 128, 93, 0), (.invokevirtual 53, 96, 0), (.ifCond .eq 51, 99, 150), (.aload_n ⟨0, q_l04⟩, 102, 0), (.aload_n ⟨0, q_l04⟩, 103, 0), (.getfield 14, 104, 0), (.invokevirtual 24, 107, 0), (.i2s, 110, 0), (.putfield 60, 111, 0), (.aload_n ⟨0, q_l04⟩, 114, 0), (.aload_n ⟨0, q_l04⟩, 115, 0), (.getfield 14, 116, 0), (.invokevirtual 24, 119, 0), (.i2s, 122, 0), (.putfield 63, 123, 0), (.aload_n ⟨0, q_l04⟩, 126, 0), (.aload_n ⟨0, q_l04⟩, 127, 0), (.getfield 14, 128, 0), (.invokevirtual 24, 131, 0), (.i2s, 134, 0), (.putfield 66, 135, 0), (.aload_n ⟨0, q_l04⟩, 138, 0), (.aload_n ⟨0, q_l04⟩, 139, 0), (.getfield 14, 140, 0), (.invokevirtual 24, 143, 0), (.i2s, 146, 0), (.putfield 69, 147, 0)], 150)
def b_Pa_readFactors_150 : List (Instr × Nat × Nat) × Nat := ([(.return_, 150, 0)], 151)
def B_Pa_readFactors : q_B := [(0, b_Pa_readFactors_0), (56, b_Pa_readFactors_56), (92, b_Pa_readFactors_92), (150, b_Pa_readFactors_150)]
theorem o_Pa_readFactors : q_okC M_Pa_readFactors B_Pa_readFactors = true := by decide +kernel
theorem u_Pa_readFactors : q_okM M_Pa_readFactors = true := by decide +kernel
theorem l_Pa_readFactors_0 : q_bk B_Pa_readFactors 0 = some ([(.aload_n ⟨0, q_l04⟩, 0, 0), (.sipush 16384, 1, 0), (.putfield 60, 4, 0), (.aload_n ⟨0, q_l04⟩, 7, 0), (.iconst 0, 8, 0), (.putfield 63, 9, 0), (.aload_n ⟨0, q_l04⟩, 12, 0), (.iconst 0, 13, 0), (.putfield 66, 14, 0), (.aload_n ⟨0, q_l04⟩, 17, 0), (.sipush 16384, 18, 0), (.putfield 69, 21, 0), (.aload_n ⟨0, q_l04⟩, 24, 0), (.bipush 8, 25, 0), (.invokevirtual 53, 27, 0), (.ifCond .eq 26, 30, 56), (.aload_n ⟨0, q_l04⟩, 33, 0), (.aload_n ⟨0, q_l04⟩, 34, 0), (.getfield 14, 35, 0), (.invokevirtual 24, 38, 0), (.i2s, 41, 0), (.putfield 60, 42, 0), (.aload_n ⟨0, q_l04⟩, 45, 0), (.aload_n ⟨0, q_l04⟩, 46, 0), (.getfield 60, 47, 0), (.putfield 69, 50, 0), (.goto 97, 53, 150)], 56) := rfl
theorem l_Pa_readFactors_56 : q_bk B_Pa_readFactors 56 = some ([(.aload_n ⟨0, q_l04⟩, 56, 0), (.bipush 64, 57, 0), (.invokevirtual 53, 59, 0), (.ifCond .eq 30, 62, 92), (.aload_n ⟨0, q_l04⟩, 65, 0), (.aload_n ⟨0, q_l04⟩, 66, 0), (.getfield 14, 67, 0), (.invokevirtual 24, 70, 0), (.i2s, 73, 0), (.putfield 60, 74, 0), (.aload_n ⟨0, q_l04⟩, 77, 0), (.aload_n ⟨0, q_l04⟩, 78, 0), (.getfield 14, 79, 0), (.invokevirtual 24, 82, 0), (.i2s, 85, 0), (.putfield 69, 86, 0), (.goto 61, 89, 150)], 92) := rfl
theorem l_Pa_readFactors_92 : q_bk B_Pa_readFactors 92 = some ([(.aload_n ⟨0, q_l04⟩, 92, 0), (.sipush 128, 93, 0), (.invokevirtual 53, 96, 0), (.ifCond .eq 51, 99, 150), (.aload_n ⟨0, q_l04⟩, 102, 0), (.aload_n ⟨0, q_l04⟩, 103, 0), (.getfield 14, 104, 0), (.invokevirtual 24, 107, 0), (.i2s, 110, 0), (.putfield 60, 111, 0), (.aload_n ⟨0, q_l04⟩, 114, 0), (.aload_n ⟨0, q_l04⟩, 115, 0), (.getfield 14, 116, 0), (.invokevirtual 24, 119, 0), (.i2s, 122, 0), (.putfield 63, 123, 0), (.aload_n ⟨0, q_l04⟩, 126, 0), (.aload_n ⟨0, q_l04⟩, 127, 0), (.getfield 14, 128, 0), (.invokevirtual 24, 131, 0), (.i2s, 134, 0), (.putfield 66, 135, 0), (.aload_n ⟨0, q_l04⟩, 138, 0), (.aload_n ⟨0, q_l04⟩, 139, 0), (.getfield 14, 140, 0), (.invokevirtual 24, 143, 0), (.i2s, 146, 0), (.putfield 69, 147, 0)], 150) := rfl
theorem l_Pa_readFactors_150 : q_bk B_Pa_readFactors 150 = some ([(.return_, 150, 0)], 151) := rfl
def b_Pa_turnedX_0 : List (Instr × Nat × Nat) × Nat := ([(.aload_n ⟨0, q_l04⟩, 0, 0), (.getfield 60, 1, 0), (.i2l, 4, 0), (.iload_n ⟨1, q_l14⟩, 5, 0), (.i2l, 6, 0), (.lmul, 7, 0), (.aload_n ⟨0, q_l04⟩, 8, 0), (.getfield 66, 9, 0), (.i2l, 12, 0), (.iload_n ⟨2, q_l24⟩, 13, 0), (.i2l, 14, 0), (.lmul, 15, 0), (.ladd, 16, 0), (.bipush 14, 17, 0), (.lshr, 19, 0), (.l2i, 20, 0), (.ireturn, 21, 0)], 22)
def B_Pa_turnedX : q_B := [(0, b_Pa_turnedX_0)]
theorem o_Pa_turnedX : q_okC M_Pa_turnedX B_Pa_turnedX = true := by decide +kernel
theorem u_Pa_turnedX : q_okM M_Pa_turnedX = true := by decide +kernel
theorem l_Pa_turnedX_0 : q_bk B_Pa_turnedX 0 = some ([(.aload_n ⟨0, q_l04⟩, 0, 0), (.getfield 60, 1, 0), (.i2l, 4, 0), (.iload_n ⟨1, q_l14⟩, 5, 0), (.i2l, 6, 0), (.lmul, 7, 0), (.aload_n ⟨0, q_l04⟩, 8, 0), (.getfield 66, 9, 0), (.i2l, 12, 0), (.iload_n ⟨2, q_l24⟩, 13, 0), (.i2l, 14, 0), (.lmul, 15, 0), (.ladd, 16, 0), (.bipush 14, 17, 0), (.lshr, 19, 0), (.l2i, 20, 0), (.ireturn, 21, 0)], 22) := rfl
def b_Pa_turnedY_0 : List (Instr × Nat × Nat) × Nat := ([(.aload_n ⟨0, q_l04⟩, 0, 0), (.getfield 63, 1, 0), (.i2l, 4, 0), (.iload_n ⟨1, q_l14⟩, 5, 0), (.i2l, 6, 0), (.lmul, 7, 0), (.aload_n ⟨0, q_l04⟩, 8, 0), (.getfield 69, 9, 0), (.i2l, 12, 0), (.iload_n ⟨2, q_l24⟩, 13, 0), (.i2l, 14, 0), (.lmul, 15, 0), (.ladd, 16, 0), (.bipush 14, 17, 0), (.lshr, 19, 0), (.l2i, 20, 0), (.ireturn, 21, 0)], 22)
def B_Pa_turnedY : q_B := [(0, b_Pa_turnedY_0)]
theorem o_Pa_turnedY : q_okC M_Pa_turnedY B_Pa_turnedY = true := by decide +kernel
theorem u_Pa_turnedY : q_okM M_Pa_turnedY = true := by decide +kernel
theorem l_Pa_turnedY_0 : q_bk B_Pa_turnedY 0 = some ([(.aload_n ⟨0, q_l04⟩, 0, 0), (.getfield 63, 1, 0), (.i2l, 4, 0), (.iload_n ⟨1, q_l14⟩, 5, 0), (.i2l, 6, 0), (.lmul, 7, 0), (.aload_n ⟨0, q_l04⟩, 8, 0), (.getfield 69, 9, 0), (.i2l, 12, 0), (.iload_n ⟨2, q_l24⟩, 13, 0), (.i2l, 14, 0), (.lmul, 15, 0), (.ladd, 16, 0), (.bipush 14, 17, 0), (.lshr, 19, 0), (.l2i, 20, 0), (.ireturn, 21, 0)], 22) := rfl
def b_Cm_glyphOf_0 : List (Instr × Nat × Nat) × Nat := ([(.aload_n ⟨0, q_l04⟩, 0, 0), (.getfield 15, 1, 0), (.ifCond .eq 9, 4, 13), (.aload_n ⟨0, q_l04⟩, 7, 0), (.iload_n ⟨1, q_l14⟩, 8, 0), (.invokevirtual 71, 9, 0), (.lreturn, 12, 0)], 13)
def b_Cm_glyphOf_13 : List (Instr × Nat × Nat) × Nat := ([(.iload_n ⟨1, q_l14⟩, 13, 0), (.ldc 70, 14, 0), (.if_icmp .gt 12, 16, 28), (.aload_n ⟨0, q_l04⟩, 19, 0), (.iload_n ⟨1, q_l14⟩, 20, 0), (.invokevirtual 74, 21, 0), (.i2l, 24, 0), (.goto 4, 25, 29)], 28)
def b_Cm_glyphOf_28 : List (Instr × Nat × Nat) × Nat := ([(.lconst ⟨0, q_l02⟩, 28, 0)], 29)
def b_Cm_glyphOf_29 : List (Instr × Nat × Nat) × Nat := ([(.lreturn, 29, 0)], 30)
def B_Cm_glyphOf : q_B := [(0, b_Cm_glyphOf_0), (13, b_Cm_glyphOf_13), (28, b_Cm_glyphOf_28), (29, b_Cm_glyphOf_29)]
theorem o_Cm_glyphOf : q_okC M_Cm_glyphOf B_Cm_glyphOf = true := by decide +kernel
theorem u_Cm_glyphOf : q_okM M_Cm_glyphOf = true := by decide +kernel
theorem l_Cm_glyphOf_0 : q_bk B_Cm_glyphOf 0 = some ([(.aload_n ⟨0, q_l04⟩, 0, 0), (.getfield 15, 1, 0), (.ifCond .eq 9, 4, 13), (.aload_n ⟨0, q_l04⟩, 7, 0), (.iload_n ⟨1, q_l14⟩, 8, 0), (.invokevirtual 71, 9, 0), (.lreturn, 12, 0)], 13) := rfl
theorem l_Cm_glyphOf_13 : q_bk B_Cm_glyphOf 13 = some ([(.iload_n ⟨1, q_l14⟩, 13, 0), (.ldc 70, 14, 0), (.if_icmp .gt 12, 16, 28), (.aload_n ⟨0, q_l04⟩, 19, 0), (.iload_n ⟨1, q_l14⟩, 20, 0), (.invokevirtual 74, 21, 0), (.i2l, 24, 0), (.goto 4, 25, 29)], 28) := rfl
theorem l_Cm_glyphOf_28 : q_bk B_Cm_glyphOf 28 = some ([(.lconst ⟨0, q_l02⟩, 28, 0)], 29) := rfl
theorem l_Cm_glyphOf_29 : q_bk B_Cm_glyphOf 29 = some ([(.lreturn, 29, 0)], 30) := rfl
def b_Cm_glyphByGroups_0 : List (Instr × Nat × Nat) × Nat := ([(.iconst 0, 0, 0), (.istore_n ⟨2, q_l24⟩, 1, 0)], 2)
def b_Cm_glyphByGroups_2 : List (Instr × Nat × Nat) × Nat := ([(.iload_n ⟨2, q_l24⟩, 2, 0), (.aload_n ⟨0, q_l04⟩, 3, 0), (.getfield 23, 4, 0), (.if_icmp .ge 78, 7, 85), (.aload_n ⟨0, q_l04⟩, 10, 0), (.getfield 19, 11, 0), (.bipush 16, 14, 0), (.iadd, 16, 0), (.bipush 12, 17, 0), (.iload_n ⟨2, q_l24⟩, 19, 0), (.imul, 20, 0), (.iadd, 21, 0), (.istore_n ⟨3, q_l34⟩, 22, 0), (.aload_n ⟨0, q_l04⟩, 23, 0), (.getfield 9, 24, 0), (.iload_n ⟨3, q_l34⟩, 27, 0), (.invokevirtual 42, 28, 0), (.lstore 4, 31, 0), (.lload 4, 33, 0), (.iload_n ⟨1, q_l14⟩, 35, 0), (.i2l, 36, 0), (.lcmp, 37, 0), (.ifCond .gt 41, 38, 79), (.iload_n ⟨1, q_l14⟩, 41, 0), (.i2l, 42, 0), (.aload_n ⟨0, q_l04⟩, 43, 0), (.getfield 9, 44, 0), (.iload_n ⟨3, q_l34⟩, 47, 0), (.iconst 4, 48, 0), (.iadd, 49, 0), (.invokevirtual 42, 50, 0), (.lcmp, 53, 0), (.ifCond .gt 25, 54, 79), (.aload_n ⟨0, q_l04⟩, 57, 0), (.getfield 9, 58, 0), (.iload_n ⟨3, q_l34⟩, 61, 0), (.bipush 8, 62, 0), (.iadd, 64, 0), (.invokevirtual 42, 65, 0), (.iload_n ⟨1, q_l14⟩, 68, 0), (.i2l, 69, 0), (.lload 4, 70, 0), (.lsub, 72, 0), (.ladd, 73, 0), (.ldc2_w 77, 74, 0), (.land, 77, 0), (.lreturn, 78, 0)], 79)
def b_Cm_glyphByGroups_79 : List (Instr × Nat × Nat) × Nat := ([(.iinc 2 1, 79, 0), (.goto (-80), 82, 2)], 85)
def b_Cm_glyphByGroups_85 : List (Instr × Nat × Nat) × Nat := ([(.lconst ⟨0, q_l02⟩, 85, 0), (.lreturn, 86, 0)], 87)
def B_Cm_glyphByGroups : q_B := [(0, b_Cm_glyphByGroups_0), (2, b_Cm_glyphByGroups_2), (79, b_Cm_glyphByGroups_79), (85, b_Cm_glyphByGroups_85)]
theorem o_Cm_glyphByGroups : q_okC M_Cm_glyphByGroups B_Cm_glyphByGroups = true := by decide +kernel
theorem u_Cm_glyphByGroups : q_okM M_Cm_glyphByGroups = true := by decide +kernel
theorem l_Cm_glyphByGroups_0 : q_bk B_Cm_glyphByGroups 0 = some ([(.iconst 0, 0, 0), (.istore_n ⟨2, q_l24⟩, 1, 0)], 2) := rfl
theorem l_Cm_glyphByGroups_2 : q_bk B_Cm_glyphByGroups 2 = some ([(.iload_n ⟨2, q_l24⟩, 2, 0), (.aload_n ⟨0, q_l04⟩, 3, 0), (.getfield 23, 4, 0), (.if_icmp .ge 78, 7, 85), (.aload_n ⟨0, q_l04⟩, 10, 0), (.getfield 19, 11, 0), (.bipush 16, 14, 0), (.iadd, 16, 0), (.bipush 12, 17, 0), (.iload_n ⟨2, q_l24⟩, 19, 0), (.imul, 20, 0), (.iadd, 21, 0), (.istore_n ⟨3, q_l34⟩, 22, 0), (.aload_n ⟨0, q_l04⟩, 23, 0), (.getfield 9, 24, 0), (.iload_n ⟨3, q_l34⟩, 27, 0), (.invokevirtual 42, 28, 0), (.lstore 4, 31, 0), (.lload 4, 33, 0), (.iload_n ⟨1, q_l14⟩, 35, 0), (.i2l, 36, 0), (.lcmp, 37, 0), (.ifCond .gt 41, 38, 79), (.iload_n ⟨1, q_l14⟩, 41, 0), (.i2l, 42, 0), (.aload_n ⟨0, q_l04⟩, 43, 0), (.getfield 9, 44, 0), (.iload_n ⟨3, q_l34⟩, 47, 0), (.iconst 4, 48, 0), (.iadd, 49, 0), (.invokevirtual 42, 50, 0), (.lcmp, 53, 0), (.ifCond .gt 25, 54, 79), (.aload_n ⟨0, q_l04⟩, 57, 0), (.getfield 9, 58, 0), (.iload_n ⟨3, q_l34⟩, 61, 0), (.bipush 8, 62, 0), (.iadd, 64, 0), (.invokevirtual 42, 65, 0), (.iload_n ⟨1, q_l14⟩, 68, 0), (.i2l, 69, 0), (.lload 4, 70, 0), (.lsub, 72, 0), (.ladd, 73, 0), (.ldc2_w 77, 74, 0), (.land, 77, 0), (.lreturn, 78, 0)], 79) := rfl
theorem l_Cm_glyphByGroups_79 : q_bk B_Cm_glyphByGroups 79 = some ([(.iinc 2 1, 79, 0), (.goto (-80), 82, 2)], 85) := rfl
theorem l_Cm_glyphByGroups_85 : q_bk B_Cm_glyphByGroups 85 = some ([(.lconst ⟨0, q_l02⟩, 85, 0), (.lreturn, 86, 0)], 87) := rfl
def b_Cm_glyphBySegments_0 : List (Instr × Nat × Nat) × Nat := ([(.iconst 0, 0, 0), (.istore_n ⟨2, q_l24⟩, 1, 0)], 2)
def b_Cm_glyphBySegments_2 : List (Instr × Nat × Nat) × Nat := ([(.iload_n ⟨2, q_l24⟩, 2, 0), (.aload_n ⟨0, q_l04⟩, 3, 0), (.getfield 23, 4, 0), (.if_icmp .ge 38, 7, 45), (.aload_n ⟨0, q_l04⟩, 10, 0), (.iload_n ⟨2, q_l24⟩, 11, 0), (.invokevirtual 64, 12, 0), (.iload_n ⟨1, q_l14⟩, 15, 0), (.if_icmp .lt 23, 16, 39), (.aload_n ⟨0, q_l04⟩, 19, 0), (.iload_n ⟨2, q_l24⟩, 20, 0), (.invokevirtual 67, 21, 0), (.iload_n ⟨1, q_l14⟩, 24, 0), (.if_icmp .le 7, 25, 32), (.iconst 0, 28, 0), (.goto 9, 29, 38)], 32)
def b_Cm_glyphBySegments_32 : List (Instr × Nat × Nat) × Nat := ([(.aload_n ⟨0, q_l04⟩, 32, 0), (.iload_n ⟨2, q_l24⟩, 33, 0), (.iload_n ⟨1, q_l14⟩, 34, 0), (.invokevirtual 79, 35, 0)], 38)
def b_Cm_glyphBySegments_38 : List (Instr × Nat × Nat) × Nat := ([(.ireturn, 38, 0)], 39)
def b_Cm_glyphBySegments_39 : List (Instr × Nat × Nat) × Nat := ([(.iinc 2 1, 39, 0), (.goto (-40), 42, 2)], 45)
def b_Cm_glyphBySegments_45 : List (Instr × Nat × Nat) × Nat := ([(.iconst 0, 45, 0), (.ireturn, 46, 0)], 47)
def B_Cm_glyphBySegments : q_B := [(0, b_Cm_glyphBySegments_0), (2, b_Cm_glyphBySegments_2), (32, b_Cm_glyphBySegments_32), (38, b_Cm_glyphBySegments_38), (39, b_Cm_glyphBySegments_39), (45, b_Cm_glyphBySegments_45)]
theorem o_Cm_glyphBySegments : q_okC M_Cm_glyphBySegments B_Cm_glyphBySegments = true := by decide +kernel
theorem u_Cm_glyphBySegments : q_okM M_Cm_glyphBySegments = true := by decide +kernel
theorem l_Cm_glyphBySegments_0 : q_bk B_Cm_glyphBySegments 0 = some ([(.iconst 0, 0, 0), (.istore_n ⟨2, q_l24⟩, 1, 0)], 2) := rfl
theorem l_Cm_glyphBySegments_2 : q_bk B_Cm_glyphBySegments 2 = some ([(.iload_n ⟨2, q_l24⟩, 2, 0), (.aload_n ⟨0, q_l04⟩, 3, 0), (.getfield 23, 4, 0), (.if_icmp .ge 38, 7, 45), (.aload_n ⟨0, q_l04⟩, 10, 0), (.iload_n ⟨2, q_l24⟩, 11, 0), (.invokevirtual 64, 12, 0), (.iload_n ⟨1, q_l14⟩, 15, 0), (.if_icmp .lt 23, 16, 39), (.aload_n ⟨0, q_l04⟩, 19, 0), (.iload_n ⟨2, q_l24⟩, 20, 0), (.invokevirtual 67, 21, 0), (.iload_n ⟨1, q_l14⟩, 24, 0), (.if_icmp .le 7, 25, 32), (.iconst 0, 28, 0), (.goto 9, 29, 38)], 32) := rfl
theorem l_Cm_glyphBySegments_32 : q_bk B_Cm_glyphBySegments 32 = some ([(.aload_n ⟨0, q_l04⟩, 32, 0), (.iload_n ⟨2, q_l24⟩, 33, 0), (.iload_n ⟨1, q_l14⟩, 34, 0), (.invokevirtual 79, 35, 0)], 38) := rfl
theorem l_Cm_glyphBySegments_38 : q_bk B_Cm_glyphBySegments 38 = some ([(.ireturn, 38, 0)], 39) := rfl
theorem l_Cm_glyphBySegments_39 : q_bk B_Cm_glyphBySegments 39 = some ([(.iinc 2 1, 39, 0), (.goto (-40), 42, 2)], 45) := rfl
theorem l_Cm_glyphBySegments_45 : q_bk B_Cm_glyphBySegments 45 = some ([(.iconst 0, 45, 0), (.ireturn, 46, 0)], 47) := rfl
def b_Cm_glyphBySegment_0 : List (Instr × Nat × Nat) × Nat := ([(.aload_n ⟨0, q_l04⟩, 0, 0), (.getfield 9, 1, 0), (.aload_n ⟨0, q_l04⟩, 4, 0), (.getfield 19, 5, 0), (.bipush 16, 8, 0), (.iadd, 10, 0), (.iconst 4, 11, 0), (.aload_n ⟨0, q_l04⟩, 12, 0), (.getfield 23, 13, 0), (.imul, 16, 0), (.iadd, 17, 0), (.iconst 2, 18, 0), (.iload_n ⟨1, q_l14⟩, 19, 0), (.imul, 20, 0), (.iadd, 21, 0), (.invokevirtual 26, 22, 0), (.istore_n ⟨3, q_l34⟩, 25, 0), (.aload_n ⟨0, q_l04⟩, 26, 0), (.getfield 19, 27, 0), (.bipush 16, 30, 0), (.iadd, 32, 0), (.bipush 6, 33, 0), (.aload_n ⟨0, q_l04⟩, 35, 0), (.getfield 23, 36, 0), (.imul, 39, 0), (.iadd, 40, 0), (.iconst 2, 41, 0), (.iload_n ⟨1, q_l14⟩, 42, 0), (.imul, 43, 0), (.iadd, 44, 0), (.istore 4, 45, 0), (.aload_n ⟨0, q_l04⟩, 47, 0), (.getfield 9, 48, 0), (.iload 4, 51, 0), (.invokevirtual 26, 53, 0), (.istore 5, 56, 0), (.iload 5, 58, 0), (.ifCond .ne 10, 60, 70), (.iload_n ⟨2, q_l24⟩, 63, 0), (.iload_n ⟨3, q_l34⟩, 64, 0), (.iadd, 65, 0), (.ldc 70, 66, 0), (.iand, 68, 0), (.ireturn, 69, 0)], 70)
def b_Cm_glyphBySegment_70 : List (Instr × Nat × Nat) × Nat := ([(.iload 4, 70, 0), (.iload 5, 72, 0), (.iadd, 74, 0), (.iconst 2, 75, 0), (.iload_n ⟨2, q_l24⟩, 76, 0), (.aload_n ⟨0, q_l04⟩, 77, 0), (.iload_n ⟨1, q_l14⟩, 78, 0), (.invokevirtual 67, 79, 0), (.isub, 82, 0), (.imul, 83, 0), (.iadd, 84, 0), (.istore 6, 85, 0), (.aload_n ⟨0, q_l04⟩, 87, 0), (.getfield 9, 88, 0), (.iload 6, 91, 0), (.i2l, 93, 0), (.ldc2_w 82, 94, 0), (.invokevirtual 34, 97, 0), (.ifCond .eq 15, 100, 115), (.aload_n ⟨0, q_l04⟩, 103, 0), (.getfield 9, 104, 0), (.iload 6, 107, 0), (.invokevirtual 26, 109, 0), (.ifCond .ne 5, 112, 117)], 115)
def b_Cm_glyphBySegment_115 : List (Instr × Nat × Nat) × Nat := ([(.iconst 0, 115, 0), (.ireturn, 116, 0)], 117)
def b_Cm_glyphBySegment_117 : List (Instr × Nat × Nat) × Nat := ([(.aload_n ⟨0, q_l04⟩, 117, 0), (.getfield 9, 118, 0), (.iload 6, 121, 0), (.invokevirtual 26, 123, 0), (.iload_n ⟨3, q_l34⟩, 126, 0), (.iadd, 127, 0), (.ldc 70, 128, 0), (.iand, 130, 0), (.ireturn, 131, 0)], 132)
def B_Cm_glyphBySegment : q_B := [(0, b_Cm_glyphBySegment_0), (70, b_Cm_glyphBySegment_70), (115, b_Cm_glyphBySegment_115), (117, b_Cm_glyphBySegment_117)]
theorem o_Cm_glyphBySegment : q_okC M_Cm_glyphBySegment B_Cm_glyphBySegment = true := by decide +kernel
theorem u_Cm_glyphBySegment : q_okM M_Cm_glyphBySegment = true := by decide +kernel
theorem l_Cm_glyphBySegment_0 : q_bk B_Cm_glyphBySegment 0 = some ([(.aload_n ⟨0, q_l04⟩, 0, 0), (.getfield 9, 1, 0), (.aload_n ⟨0, q_l04⟩, 4, 0), (.getfield 19, 5, 0), (.bipush 16, 8, 0), (.iadd, 10, 0), (.iconst 4, 11, 0), (.aload_n ⟨0, q_l04⟩, 12, 0), (.getfield 23, 13, 0), (.imul, 16, 0), (.iadd, 17, 0), (.iconst 2, 18, 0), (.iload_n ⟨1, q_l14⟩, 19, 0), (.imul, 20, 0), (.iadd, 21, 0), (.invokevirtual 26, 22, 0), (.istore_n ⟨3, q_l34⟩, 25, 0), (.aload_n ⟨0, q_l04⟩, 26, 0), (.getfield 19, 27, 0), (.bipush 16, 30, 0), (.iadd, 32, 0), (.bipush 6, 33, 0), (.aload_n ⟨0, q_l04⟩, 35, 0), (.getfield 23, 36, 0), (.imul, 39, 0), (.iadd, 40, 0), (.iconst 2, 41, 0), (.iload_n ⟨1, q_l14⟩, 42, 0), (.imul, 43, 0), (.iadd, 44, 0), (.istore 4, 45, 0), (.aload_n ⟨0, q_l04⟩, 47, 0), (.getfield 9, 48, 0), (.iload 4, 51, 0), (.invokevirtual 26, 53, 0), (.istore 5, 56, 0), (.iload 5, 58, 0), (.ifCond .ne 10, 60, 70), (.iload_n ⟨2, q_l24⟩, 63, 0), (.iload_n ⟨3, q_l34⟩, 64, 0), (.iadd, 65, 0), (.ldc 70, 66, 0), (.iand, 68, 0), (.ireturn, 69, 0)], 70) := rfl
theorem l_Cm_glyphBySegment_70 : q_bk B_Cm_glyphBySegment 70 = some ([(.iload 4, 70, 0), (.iload 5, 72, 0), (.iadd, 74, 0), (.iconst 2, 75, 0), (.iload_n ⟨2, q_l24⟩, 76, 0), (.aload_n ⟨0, q_l04⟩, 77, 0), (.iload_n ⟨1, q_l14⟩, 78, 0), (.invokevirtual 67, 79, 0), (.isub, 82, 0), (.imul, 83, 0), (.iadd, 84, 0), (.istore 6, 85, 0), (.aload_n ⟨0, q_l04⟩, 87, 0), (.getfield 9, 88, 0), (.iload 6, 91, 0), (.i2l, 93, 0), (.ldc2_w 82, 94, 0), (.invokevirtual 34, 97, 0), (.ifCond .eq 15, 100, 115), (.aload_n ⟨0, q_l04⟩, 103, 0), (.getfield 9, 104, 0), (.iload 6, 107, 0), (.invokevirtual 26, 109, 0), (.ifCond .ne 5, 112, 117)], 115) := rfl
theorem l_Cm_glyphBySegment_115 : q_bk B_Cm_glyphBySegment 115 = some ([(.iconst 0, 115, 0), (.ireturn, 116, 0)], 117) := rfl
theorem l_Cm_glyphBySegment_117 : q_bk B_Cm_glyphBySegment 117 = some ([(.aload_n ⟨0, q_l04⟩, 117, 0), (.getfield 9, 118, 0), (.iload 6, 121, 0), (.invokevirtual 26, 123, 0), (.iload_n ⟨3, q_l34⟩, 126, 0), (.iadd, 127, 0), (.ldc 70, 128, 0), (.iand, 130, 0), (.ireturn, 131, 0)], 132) := rfl
end
section
def b_Fo_init_0 : List (Instr × Nat × Nat) × Nat := ([(.aload_n ⟨0, q_l04⟩, 0, 0), (.invokespecial 3, 1, 0), (.aload_n ⟨0, q_l04⟩, 4, 0), (.new 9, 5, 0), (.dup, 8, 0), (.invokespecial 11, 9, 0), (.putfield 12, 12, 0), (.aload_n ⟨0, q_l04⟩, 15, 0), (.new 18, 16, 0), (.dup, 19, 0), (.aload_n ⟨0, q_l04⟩, 20, 0), (.getfield 12, 21, 0), (.invokespecial 20, 24, 0), (.putfield 23, 27, 0), (.aload_n ⟨0, q_l04⟩, 30, 0), (.new 18, 31, 0), (.dup, 34, 0), (.aload_n ⟨0, q_l04⟩, 35, 0), (.getfield 12, 36, 0), (.invokespecial 20, 39, 0), (.putfield 27, 42, 0), (.aload_n ⟨0, q_l04⟩, 45, 0), (.new 18, 46, 0), (.dup, 49, 0), (.aload_n ⟨0, q_l04⟩, 50, 0), (.getfield 12, 51, 0), (.invokespecial 20, 54, 0), (.putfield 30, 57, 0), (.aload_n ⟨0, q_l04⟩, 60, 0), (.new 18, 61, 0), (.dup, 64, 0), (.aload_n ⟨0, q_l04⟩, 65, 0), (.getfield 12, 66, 0), (.invokespecial 20, 69, 0), (.putfield 33, 72, 0), (.aload_n ⟨0, q_l04⟩, 75, 0), (.new 18, 76, 0), (.dup, 79, 0), (.aload_n ⟨0, q_l04⟩, 80, 0), (.getfield 12, 81, 0), (.invokespecial 20, 84, 0), (.putfield 36, 87, 0), (.aload_n ⟨0, q_l04⟩, 90, 0), (.new 18, 91, 0), (.dup, 94, 0), (.aload_n ⟨0, q_l04⟩, 95, 0), (.getfield 12, 96, 0), (.invokespecial 20, 99, 0), (.putfield 39, 102, 0), (.aload_n ⟨0, q_l04⟩, 105, 0), (.new 18, 106, 0), (.dup, 109, 0), (.aload_n ⟨0, q_l04⟩, 110, 0), (.getfield 12, 111, 0), (.invokespecial 20, 114, 0), (.putfield 42, 117, 0), (.aload_n ⟨0, q_l04⟩, 120, 0), (.new 18, 121, 0), (.dup, 124, 0), (.aload_n ⟨0, q_l04⟩, 125, 0), (.getfield 12, 126, 0), (.invokespecial 20, 129, 0), (.putfield 45, 132, 0), (.aload_n ⟨0, q_l04⟩, 135, 0), (.new 18, 136, 0), (.dup, 139, 0), (.aload_n ⟨0, q_l04⟩, 140, 0), (.getfield 12, 141, 0), (.invokespecial 20, 144, 0), (.putfield 48, 147, 0), (.aload_n ⟨0, q_l04⟩, 150, 0), (.new 51, 151, 0), (.dup, 154, 0), (.aload_n ⟨0, q_l04⟩, 155, 0), (.getfield 30, 156, 0), (.invokespecial 53, 159, 0), (.putfield 56, 162, 0), (.return_, 165, 0)], 166)
def B_Fo_init : q_B := [(0, b_Fo_init_0)]
theorem o_Fo_init : q_okC M_Fo_init B_Fo_init = true := by decide +kernel
theorem u_Fo_init : q_okM M_Fo_init = true := by decide +kernel
theorem l_Fo_init_0 : q_bk B_Fo_init 0 = some ([(.aload_n ⟨0, q_l04⟩, 0, 0), (.invokespecial 3, 1, 0), (.aload_n ⟨0, q_l04⟩, 4, 0), (.new 9, 5, 0), (.dup, 8, 0), (.invokespecial 11, 9, 0), (.putfield 12, 12, 0), (.aload_n ⟨0, q_l04⟩, 15, 0), (.new 18, 16, 0), (.dup, 19, 0), (.aload_n ⟨0, q_l04⟩, 20, 0), (.getfield 12, 21, 0), (.invokespecial 20, 24, 0), (.putfield 23, 27, 0), (.aload_n ⟨0, q_l04⟩, 30, 0), (.new 18, 31, 0), (.dup, 34, 0), (.aload_n ⟨0, q_l04⟩, 35, 0), (.getfield 12, 36, 0), (.invokespecial 20, 39, 0), (.putfield 27, 42, 0), (.aload_n ⟨0, q_l04⟩, 45, 0), (.new 18, 46, 0), (.dup, 49, 0), (.aload_n ⟨0, q_l04⟩, 50, 0), (.getfield 12, 51, 0), (.invokespecial 20, 54, 0), (.putfield 30, 57, 0), (.aload_n ⟨0, q_l04⟩, 60, 0), (.new 18, 61, 0), (.dup, 64, 0), (.aload_n ⟨0, q_l04⟩, 65, 0), (.getfield 12, 66, 0), (.invokespecial 20, 69, 0), (.putfield 33, 72, 0), (.aload_n ⟨0, q_l04⟩, 75, 0), (.new 18, 76, 0), (.dup, 79, 0), (.aload_n ⟨0, q_l04⟩, 80, 0), (.getfield 12, 81, 0), (.invokespecial 20, 84, 0), (.putfield 36, 87, 0), (.aload_n ⟨0, q_l04⟩, 90, 0), (.new 18, 91, 0), (.dup, 94, 0), (.aload_n ⟨0, q_l04⟩, 95, 0), (.getfield 12, 96, 0), (.invokespecial 20, 99, 0), (.putfield 39, 102, 0), (.aload_n ⟨0, q_l04⟩, 105, 0), (.new 18, 106, 0), (.dup, 109, 0), (.aload_n ⟨0, q_l04⟩, 110, 0), (.getfield 12, 111, 0), (.invokespecial 20, 114, 0), (.putfield 42, 117, 0), (.aload_n ⟨0, q_l04⟩, 120, 0), (.new 18, 121, 0), (.dup, 124, 0), (.aload_n ⟨0, q_l04⟩, 125, 0), (.getfield 12, 126, 0), (.invokespecial 20, 129, 0), (.putfield 45, 132, 0), (.aload_n ⟨0, q_l04⟩, 135, 0), (.new 18, 136, 0), (.dup, 139, 0), (.aload_n ⟨0, q_l04⟩, 140, 0), (.getfield 12, 141, 0), (.invokespecial 20, 144, 0), (.putfield 48, 147, 0), (.aload_n ⟨0, q_l04⟩, 150, 0), (.new 51, 151, 0), (.dup, 154, 0), (.aload_n ⟨0, q_l04⟩, 155, 0), (.getfield 30, 156, 0), (.invokespecial 53, 159, 0), (.putfield 56, 162, 0), (.return_, 165, 0)], 166) := rfl
def b_Fo_takeFile_0 : List (Instr × Nat × Nat) × Nat := ([(.aload_n ⟨0, q_l04⟩, 0, 0), (.getfield 12, 1, 0), (.aload_n ⟨1, q_l14⟩, 4, 0), (.invokevirtual 60, 5, 0), (.aload_n ⟨0, q_l04⟩, 8, 0), (.getfield 23, 9, 0), (.iconst 0, 12, 0), (.aload_n ⟨0, q_l04⟩, 13, 0), (.getfield 12, 14, 0), (.getfield 63, 17, 0), (.invokevirtual 67, 20, 0), (.return_, 23, 0)], 24)
def B_Fo_takeFile : q_B := [(0, b_Fo_takeFile_0)]
theorem o_Fo_takeFile : q_okC M_Fo_takeFile B_Fo_takeFile = true := by decide +kernel
theorem u_Fo_takeFile : q_okM M_Fo_takeFile = true := by decide +kernel
theorem l_Fo_takeFile_0 : q_bk B_Fo_takeFile 0 = some ([(.aload_n ⟨0, q_l04⟩, 0, 0), (.getfield 12, 1, 0), (.aload_n ⟨1, q_l14⟩, 4, 0), (.invokevirtual 60, 5, 0), (.aload_n ⟨0, q_l04⟩, 8, 0), (.getfield 23, 9, 0), (.iconst 0, 12, 0), (.aload_n ⟨0, q_l04⟩, 13, 0), (.getfield 12, 14, 0), (.getfield 63, 17, 0), (.invokevirtual 67, 20, 0), (.return_, 23, 0)], 24) := rfl
def b_Fo_firstWrong_0 : List (Instr × Nat × Nat) × Nat := ([(.aload_n ⟨0, q_l04⟩, 0, 0), (.invokevirtual 71, 1, 0), (.ifCond .ne 5, 4, 9), (.iconst (-1), 7, 0), (.ireturn, 8, 0)], 9)
def b_Fo_firstWrong_9 : List (Instr × Nat × Nat) × Nat := ([(.iload_n ⟨1, q_l14⟩, 9, 0), (.ifCond .eq 13, 10, 23), (.aload_n ⟨0, q_l04⟩, 13, 0), (.invokevirtual 75, 14, 0), (.ifCond .ne 6, 17, 23), (.bipush (-2), 20, 0), (.ireturn, 22, 0)], 23)
def b_Fo_firstWrong_23 : List (Instr × Nat × Nat) × Nat := ([(.aload_n ⟨0, q_l04⟩, 23, 0), (.invokevirtual 78, 24, 0), (.ifCond .ne 6, 27, 33), (.bipush (-3), 30, 0), (.ireturn, 32, 0)], 33)
def b_Fo_firstWrong_33 : List (Instr × Nat × Nat) × Nat := ([(.aload_n ⟨0, q_l04⟩, 33, 0), (.invokevirtual 81, 34, 0), (.ifCond .eq 20, 37, 57), (.aload_n ⟨0, q_l04⟩, 40, 0), (.invokevirtual 84, 41, 0), (.ifCond .eq 13, 44, 57), (.aload_n ⟨0, q_l04⟩, 47, 0), (.getfield 56, 48, 0), (.invokevirtual 87, 51, 0), (.ifCond .ne 6, 54, 60)], 57)
def b_Fo_firstWrong_57 : List (Instr × Nat × Nat) × Nat := ([(.bipush (-4), 57, 0), (.ireturn, 59, 0)], 60)
def b_Fo_firstWrong_60 : List (Instr × Nat × Nat) × Nat := ([(.iconst 0, 60, 0), (.ireturn, 61, 0)], 62)
def B_Fo_firstWrong : q_B := [(0, b_Fo_firstWrong_0), (9, b_Fo_firstWrong_9), (23, b_Fo_firstWrong_23), (33, b_Fo_firstWrong_33), (57, b_Fo_firstWrong_57), (60, b_Fo_firstWrong_60)]
theorem o_Fo_firstWrong : q_okC M_Fo_firstWrong B_Fo_firstWrong = true := by decide +kernel
theorem u_Fo_firstWrong : q_okM M_Fo_firstWrong = true := by decide +kernel
theorem l_Fo_firstWrong_0 : q_bk B_Fo_firstWrong 0 = some ([(.aload_n ⟨0, q_l04⟩, 0, 0), (.invokevirtual 71, 1, 0), (.ifCond .ne 5, 4, 9), (.iconst (-1), 7, 0), (.ireturn, 8, 0)], 9) := rfl
theorem l_Fo_firstWrong_9 : q_bk B_Fo_firstWrong 9 = some ([(.iload_n ⟨1, q_l14⟩, 9, 0), (.ifCond .eq 13, 10, 23), (.aload_n ⟨0, q_l04⟩, 13, 0), (.invokevirtual 75, 14, 0), (.ifCond .ne 6, 17, 23), (.bipush (-2), 20, 0), (.ireturn, 22, 0)], 23) := rfl
theorem l_Fo_firstWrong_23 : q_bk B_Fo_firstWrong 23 = some ([(.aload_n ⟨0, q_l04⟩, 23, 0), (.invokevirtual 78, 24, 0), (.ifCond .ne 6, 27, 33), (.bipush (-3), 30, 0), (.ireturn, 32, 0)], 33) := rfl
theorem l_Fo_firstWrong_33 : q_bk B_Fo_firstWrong 33 = some ([(.aload_n ⟨0, q_l04⟩, 33, 0), (.invokevirtual 81, 34, 0), (.ifCond .eq 20, 37, 57), (.aload_n ⟨0, q_l04⟩, 40, 0), (.invokevirtual 84, 41, 0), (.ifCond .eq 13, 44, 57), (.aload_n ⟨0, q_l04⟩, 47, 0), (.getfield 56, 48, 0), (.invokevirtual 87, 51, 0), (.ifCond .ne 6, 54, 60)], 57) := rfl
theorem l_Fo_firstWrong_57 : q_bk B_Fo_firstWrong 57 = some ([(.bipush (-4), 57, 0), (.ireturn, 59, 0)], 60) := rfl
theorem l_Fo_firstWrong_60 : q_bk B_Fo_firstWrong 60 = some ([(.iconst 0, 60, 0), (.ireturn, 61, 0)], 62) := rfl
def b_Fo_isFile_0 : List (Instr × Nat × Nat) × Nat := ([(.aload_n ⟨0, q_l04⟩, 0, 0), (.invokevirtual 94, 1, 0), (.istore_n ⟨1, q_l14⟩, 4, 0), (.aload_n ⟨0, q_l04⟩, 5, 0), (.getfield 23, 6, 0), (.iconst 0, 9, 0), (.invokevirtual 98, 10, 0), (.ldc2_w 102, 13, 0), (.lcmp, 16, 0), (.ifCond .ne 32, 17, 49), (.iload_n ⟨1, q_l14⟩, 20, 0), (.iconst 1, 21, 0), (.if_icmp .lt 27, 22, 49), (.iload_n ⟨1, q_l14⟩, 25, 0), (.bipush 64, 26, 0), (.if_icmp .gt 21, 28, 49), (.aload_n ⟨0, q_l04⟩, 31, 0), (.getfield 23, 32, 0), (.ldc2_w 104, 35, 0), (.bipush 16, 38, 0), (.iload_n ⟨1, q_l14⟩, 40, 0), (.imul, 41, 0), (.i2l, 42, 0), (.invokevirtual 106, 43, 0), (.ifCond .ne 5, 46, 51)], 49)
def b_Fo_isFile_49 : List (Instr × Nat × Nat) × Nat := ([(.iconst 0, 49, 0), (.ireturn, 50, 0)], 51)
def b_Fo_isFile_51 : List (Instr × Nat × Nat) × Nat := ([(.ldc2_w 110, 51, 0), (.lstore_n ⟨2, q_l24⟩, 54, 0), (.iconst 0, 55, 0), (.istore 4, 56, 0)], 58)
def b_Fo_isFile_58 : List (Instr × Nat × Nat) × Nat := ([(.iload 4, 58, 0), (.iload_n ⟨1, q_l14⟩, 60, 0), (.if_icmp .ge 76, 61, 137), (.bipush 12, 64, 0), (.bipush 16, 66, 0), (.iload 4, 68, 0), (.imul, 70, 0), (.iadd, 71, 0), (.istore 5, 72, 0), (.aload_n ⟨0, q_l04⟩, 74, 0), (.getfield 23, 75, 0), (.iload 5, 78, 0), (.invokevirtual 98, 80, 0), (.lstore 6, 83, 0), (.lload 6, 85, 0), (.lload_n ⟨2, q_l24⟩, 87, 0), (.lcmp, 88, 0), (.ifCond .le 37, 89, 126), (.aload_n ⟨0, q_l04⟩, 92, 0), (.getfield 23, 93, 0), (.aload_n ⟨0, q_l04⟩, 96, 0), (.getfield 23, 97, 0), (.iload 5, 100, 0), (.bipush 8, 102, 0), (.iadd, 104, 0), (.invokevirtual 98, 105, 0), (.aload_n ⟨0, q_l04⟩, 108, 0), (.getfield 23, 109, 0), (.iload 5, 112, 0), (.bipush 12, 114, 0), (.iadd, 116, 0), (.invokevirtual 98, 117, 0), (.invokevirtual 106, 120, 0), (.ifCond .ne 5, 123, 128)], 126)
def b_Fo_isFile_126 : List (Instr × Nat × Nat) × Nat := ([(.iconst 0, 126, 0), (.ireturn, 127, 0)], 128)
def b_Fo_isFile_128 : List (Instr × Nat × Nat) × Nat := ([(.lload 6, 128, 0), (.lstore_n ⟨2, q_l24⟩, 130, 0), (.iinc 4 1, 131, 0), (.goto (-76), 134, 58)], 137)
def b_Fo_isFile_137 : List (Instr × Nat × Nat) × Nat := ([(.iconst 1, 137, 0), (.ireturn, 138, 0)], 139)
def B_Fo_isFile : q_B := [(0, b_Fo_isFile_0), (49, b_Fo_isFile_49), (51, b_Fo_isFile_51), (58, b_Fo_isFile_58), (126, b_Fo_isFile_126), (128, b_Fo_isFile_128), (137, b_Fo_isFile_137)]
theorem o_Fo_isFile : q_okC M_Fo_isFile B_Fo_isFile = true := by decide +kernel
theorem u_Fo_isFile : q_okM M_Fo_isFile = true := by decide +kernel
theorem l_Fo_isFile_0 : q_bk B_Fo_isFile 0 = some ([(.aload_n ⟨0, q_l04⟩, 0, 0), (.invokevirtual 94, 1, 0), (.istore_n ⟨1, q_l14⟩, 4, 0), (.aload_n ⟨0, q_l04⟩, 5, 0), (.getfield 23, 6, 0), (.iconst 0, 9, 0), (.invokevirtual 98, 10, 0), (.ldc2_w 102, 13, 0), (.lcmp, 16, 0), (.ifCond .ne 32, 17, 49), (.iload_n ⟨1, q_l14⟩, 20, 0), (.iconst 1, 21, 0), (.if_icmp .lt 27, 22, 49), (.iload_n ⟨1, q_l14⟩, 25, 0), (.bipush 64, 26, 0), (.if_icmp .gt 21, 28, 49), (.aload_n ⟨0, q_l04⟩, 31, 0), (.getfield 23, 32, 0), (.ldc2_w 104, 35, 0), (.bipush 16, 38, 0), (.iload_n ⟨1, q_l14⟩, 40, 0), (.imul, 41, 0), (.i2l, 42, 0), (.invokevirtual 106, 43, 0), (.ifCond .ne 5, 46, 51)], 49) := rfl
theorem l_Fo_isFile_49 : q_bk B_Fo_isFile 49 = some ([(.iconst 0, 49, 0), (.ireturn, 50, 0)], 51) := rfl
theorem l_Fo_isFile_51 : q_bk B_Fo_isFile 51 = some ([(.ldc2_w 110, 51, 0), (.lstore_n ⟨2, q_l24⟩, 54, 0), (.iconst 0, 55, 0), (.istore 4, 56, 0)], 58) := rfl
theorem l_Fo_isFile_58 : q_bk B_Fo_isFile 58 = some ([(.iload 4, 58, 0), (.iload_n ⟨1, q_l14⟩, 60, 0), (.if_icmp .ge 76, 61, 137), (.bipush 12, 64, 0), (.bipush 16, 66, 0), (.iload 4, 68, 0), (.imul, 70, 0), (.iadd, 71, 0), (.istore 5, 72, 0), (.aload_n ⟨0, q_l04⟩, 74, 0), (.getfield 23, 75, 0), (.iload 5, 78, 0), (.invokevirtual 98, 80, 0), (.lstore 6, 83, 0), (.lload 6, 85, 0), (.lload_n ⟨2, q_l24⟩, 87, 0), (.lcmp, 88, 0), (.ifCond .le 37, 89, 126), (.aload_n ⟨0, q_l04⟩, 92, 0), (.getfield 23, 93, 0), (.aload_n ⟨0, q_l04⟩, 96, 0), (.getfield 23, 97, 0), (.iload 5, 100, 0), (.bipush 8, 102, 0), (.iadd, 104, 0), (.invokevirtual 98, 105, 0), (.aload_n ⟨0, q_l04⟩, 108, 0), (.getfield 23, 109, 0), (.iload 5, 112, 0), (.bipush 12, 114, 0), (.iadd, 116, 0), (.invokevirtual 98, 117, 0), (.invokevirtual 106, 120, 0), (.ifCond .ne 5, 123, 128)], 126) := rfl
theorem l_Fo_isFile_126 : q_bk B_Fo_isFile 126 = some ([(.iconst 0, 126, 0), (.ireturn, 127, 0)], 128) := rfl
theorem l_Fo_isFile_128 : q_bk B_Fo_isFile 128 = some ([(.lload 6, 128, 0), (.lstore_n ⟨2, q_l24⟩, 130, 0), (.iinc 4 1, 131, 0), (.goto (-76), 134, 58)], 137) := rfl
theorem l_Fo_isFile_137 : q_bk B_Fo_isFile 137 = some ([(.iconst 1, 137, 0), (.ireturn, 138, 0)], 139) := rfl
def b_Fo_tables_0 : List (Instr × Nat × Nat) × Nat := ([(.aload_n ⟨0, q_l04⟩, 0, 0), (.getfield 23, 1, 0), (.iconst 4, 4, 0), (.invokevirtual 90, 5, 0), (.ireturn, 8, 0)], 9)
def B_Fo_tables : q_B := [(0, b_Fo_tables_0)]
theorem o_Fo_tables : q_okC M_Fo_tables B_Fo_tables = true := by decide +kernel
theorem u_Fo_tables : q_okM M_Fo_tables = true := by decide +kernel
theorem l_Fo_tables_0 : q_bk B_Fo_tables 0 = some ([(.aload_n ⟨0, q_l04⟩, 0, 0), (.getfield 23, 1, 0), (.iconst 4, 4, 0), (.invokevirtual 90, 5, 0), (.ireturn, 8, 0)], 9) := rfl
def b_Fo_hasSums_0 : List (Instr × Nat × Nat) × Nat := ([(.aload_n ⟨0, q_l04⟩, 0, 0), (.invokevirtual 94, 1, 0), (.istore_n ⟨1, q_l14⟩, 4, 0), (.iconst 0, 5, 0), (.istore_n ⟨2, q_l24⟩, 6, 0)], 7)
def b_Fo_hasSums_7 : List (Instr × Nat × Nat) × Nat := ([(.iload_n ⟨2, q_l24⟩, 7, 0), (.iload_n ⟨1, q_l14⟩, 8, 0), (.if_icmp .ge 50, 9, 59), (.bipush 12, 12, 0), (.bipush 16, 14, 0), (.iload_n ⟨2, q_l24⟩, 16, 0), (.imul, 17, 0), (.iadd, 18, 0), (.istore_n ⟨3, q_l34⟩, 19, 0), (.aload_n ⟨0, q_l04⟩, 20, 0), (.aload_n ⟨0, q_l04⟩, 21, 0), (.getfield 27, 22, 0), (.iload_n ⟨3, q_l34⟩, 25, 0), (.invokevirtual 112, 26, 0), (.aload_n ⟨0, q_l04⟩, 29, 0), (.aload_n ⟨0, q_l04⟩, 30, 0), (.getfield 27, 31, 0), (.invokevirtual 116, 34, 0), (.aload_n ⟨0, q_l04⟩, 37, 0), (.getfield 23, 38, 0), (.iload_n ⟨3, q_l34⟩, 41, 0), (.iconst 4, 42, 0), (.iadd, 43, 0), (.invokevirtual 98, 44, 0), (.lcmp, 47, 0), (.ifCond .eq 5, 48, 53), (.iconst 0, 51, 0), (.ireturn, 52, 0)], 53)
def b_Fo_hasSums_53 : List (Instr × Nat × Nat) × Nat := ([(.iinc 2 1, 53, 0), (.goto (-49), 56, 7)], 59)
def b_Fo_hasSums_59 : List (Instr × Nat × Nat) × Nat := ([(.iconst 1, 59, 0), (.ireturn, 60, 0)], 61)
def B_Fo_hasSums : q_B := [(0, b_Fo_hasSums_0), (7, b_Fo_hasSums_7), (53, b_Fo_hasSums_53), (59, b_Fo_hasSums_59)]
theorem o_Fo_hasSums : q_okC M_Fo_hasSums B_Fo_hasSums = true := by decide +kernel
theorem u_Fo_hasSums : q_okM M_Fo_hasSums = true := by decide +kernel
theorem l_Fo_hasSums_0 : q_bk B_Fo_hasSums 0 = some ([(.aload_n ⟨0, q_l04⟩, 0, 0), (.invokevirtual 94, 1, 0), (.istore_n ⟨1, q_l14⟩, 4, 0), (.iconst 0, 5, 0), (.istore_n ⟨2, q_l24⟩, 6, 0)], 7) := rfl
theorem l_Fo_hasSums_7 : q_bk B_Fo_hasSums 7 = some ([(.iload_n ⟨2, q_l24⟩, 7, 0), (.iload_n ⟨1, q_l14⟩, 8, 0), (.if_icmp .ge 50, 9, 59), (.bipush 12, 12, 0), (.bipush 16, 14, 0), (.iload_n ⟨2, q_l24⟩, 16, 0), (.imul, 17, 0), (.iadd, 18, 0), (.istore_n ⟨3, q_l34⟩, 19, 0), (.aload_n ⟨0, q_l04⟩, 20, 0), (.aload_n ⟨0, q_l04⟩, 21, 0), (.getfield 27, 22, 0), (.iload_n ⟨3, q_l34⟩, 25, 0), (.invokevirtual 112, 26, 0), (.aload_n ⟨0, q_l04⟩, 29, 0), (.aload_n ⟨0, q_l04⟩, 30, 0), (.getfield 27, 31, 0), (.invokevirtual 116, 34, 0), (.aload_n ⟨0, q_l04⟩, 37, 0), (.getfield 23, 38, 0), (.iload_n ⟨3, q_l34⟩, 41, 0), (.iconst 4, 42, 0), (.iadd, 43, 0), (.invokevirtual 98, 44, 0), (.lcmp, 47, 0), (.ifCond .eq 5, 48, 53), (.iconst 0, 51, 0), (.ireturn, 52, 0)], 53) := rfl
theorem l_Fo_hasSums_53 : q_bk B_Fo_hasSums 53 = some ([(.iinc 2 1, 53, 0), (.goto (-49), 56, 7)], 59) := rfl
theorem l_Fo_hasSums_59 : q_bk B_Fo_hasSums 59 = some ([(.iconst 1, 59, 0), (.ireturn, 60, 0)], 61) := rfl
def b_Fo_layByEntry_0 : List (Instr × Nat × Nat) × Nat := ([(.aload_n ⟨1, q_l14⟩, 0, 0), (.aload_n ⟨0, q_l04⟩, 1, 0), (.getfield 23, 2, 0), (.iload_n ⟨2, q_l24⟩, 5, 0), (.bipush 8, 6, 0), (.iadd, 8, 0), (.invokevirtual 98, 9, 0), (.l2i, 12, 0), (.aload_n ⟨0, q_l04⟩, 13, 0), (.getfield 23, 14, 0), (.iload_n ⟨2, q_l24⟩, 17, 0), (.bipush 12, 18, 0), (.iadd, 20, 0), (.invokevirtual 98, 21, 0), (.l2i, 24, 0), (.invokevirtual 67, 25, 0), (.return_, 28, 0)], 29)
def B_Fo_layByEntry : q_B := [(0, b_Fo_layByEntry_0)]
theorem o_Fo_layByEntry : q_okC M_Fo_layByEntry B_Fo_layByEntry = true := by decide +kernel
theorem u_Fo_layByEntry : q_okM M_Fo_layByEntry = true := by decide +kernel
theorem l_Fo_layByEntry_0 : q_bk B_Fo_layByEntry 0 = some ([(.aload_n ⟨1, q_l14⟩, 0, 0), (.aload_n ⟨0, q_l04⟩, 1, 0), (.getfield 23, 2, 0), (.iload_n ⟨2, q_l24⟩, 5, 0), (.bipush 8, 6, 0), (.iadd, 8, 0), (.invokevirtual 98, 9, 0), (.l2i, 12, 0), (.aload_n ⟨0, q_l04⟩, 13, 0), (.getfield 23, 14, 0), (.iload_n ⟨2, q_l24⟩, 17, 0), (.bipush 12, 18, 0), (.iadd, 20, 0), (.invokevirtual 98, 21, 0), (.l2i, 24, 0), (.invokevirtual 67, 25, 0), (.return_, 28, 0)], 29) := rfl
def b_Fo_sum_0 : List (Instr × Nat × Nat) × Nat := ([(.lconst ⟨0, q_l02⟩, 0, 0), (.lstore_n ⟨2, q_l24⟩, 1, 0), (.iconst 0, 2, 0), (.istore 4, 3, 0)], 5)
def b_Fo_sum_5 : List (Instr × Nat × Nat) × Nat := ([(.iload 4, 5, 0), (.aload_n ⟨1, q_l14⟩, 7, 0), (.getfield 120, 8, 0), (.if_icmp .ge 18, 11, 29), (.lload_n ⟨2, q_l24⟩, 14, 0), (.aload_n ⟨1, q_l14⟩, 15, 0), (.iload 4, 16, 0), (.invokevirtual 98, 18, 0), (.ladd, 21, 0), (.lstore_n ⟨2, q_l24⟩, 22, 0), (.iinc 4 4, 23, 0), (.goto (-21), 26, 5)], 29)
def b_Fo_sum_29 : List (Instr × Nat × Nat) × Nat := ([(.lload_n ⟨2, q_l24⟩, 29, 0), (.ldc2_w 123, 30, 0), (.land, 33, 0), (.lreturn, 34, 0)], 35)
def B_Fo_sum : q_B := [(0, b_Fo_sum_0), (5, b_Fo_sum_5), (29, b_Fo_sum_29)]
theorem o_Fo_sum : q_okC M_Fo_sum B_Fo_sum = true := by decide +kernel
theorem u_Fo_sum : q_okM M_Fo_sum = true := by decide +kernel
theorem l_Fo_sum_0 : q_bk B_Fo_sum 0 = some ([(.lconst ⟨0, q_l02⟩, 0, 0), (.lstore_n ⟨2, q_l24⟩, 1, 0), (.iconst 0, 2, 0), (.istore 4, 3, 0)], 5) := rfl
theorem l_Fo_sum_5 : q_bk B_Fo_sum 5 = some ([(.iload 4, 5, 0), (.aload_n ⟨1, q_l14⟩, 7, 0), (.getfield 120, 8, 0), (.if_icmp .ge 18, 11, 29), (.lload_n ⟨2, q_l24⟩, 14, 0), (.aload_n ⟨1, q_l14⟩, 15, 0), (.iload 4, 16, 0), (.invokevirtual 98, 18, 0), (.ladd, 21, 0), (.lstore_n ⟨2, q_l24⟩, 22, 0), (.iinc 4 4, 23, 0), (.goto (-21), 26, 5)], 29) := rfl
theorem l_Fo_sum_29 : q_bk B_Fo_sum 29 = some ([(.lload_n ⟨2, q_l24⟩, 29, 0), (.ldc2_w 123, 30, 0), (.land, 33, 0), (.lreturn, 34, 0)], 35) := rfl
def b_Fo_hasTables_0 : List (Instr × Nat × Nat) × Nat := ([(.aload_n ⟨0, q_l04⟩, 0, 0), (.aload_n ⟨0, q_l04⟩, 1, 0), (.getfield 30, 2, 0), (.ldc 125, 5, 0), (.invokevirtual 126, 7, 0), (.ifCond .eq 85, 10, 95), (.aload_n ⟨0, q_l04⟩, 13, 0), (.aload_n ⟨0, q_l04⟩, 14, 0), (.getfield 33, 15, 0), (.ldc 130, 18, 0), (.invokevirtual 126, 20, 0), (.ifCond .eq 72, 23, 95), (.aload_n ⟨0, q_l04⟩, 26, 0), (.aload_n ⟨0, q_l04⟩, 27, 0), (.getfield 36, 28, 0), (.ldc 131, 31, 0), (.invokevirtual 126, 33, 0), (.ifCond .eq 59, 36, 95), (.aload_n ⟨0, q_l04⟩, 39, 0), (.aload_n ⟨0, q_l04⟩, 40, 0), (.getfield 39, 41, 0), (.ldc 132, 44, 0), (.invokevirtual 126, 46, 0), (.ifCond .eq 46, 49, 95), (.aload_n ⟨0, q_l04⟩, 52, 0), (.aload_n ⟨0, q_l04⟩, 53, 0), (.getfield 42, 54, 0), (.ldc 133, 57, 0), (.invokevirtual 126, 59, 0), (.ifCond .eq 33, 62, 95), (.aload_n ⟨0, q_l04⟩, 65, 0), (.aload_n ⟨0, q_l04⟩, 66, 0), (.getfield 45, 67, 0), (.ldc 134, 70, 0), (.invokevirtual 126, 72, 0), (.ifCond .eq 20, 75, 95), (.aload_n ⟨0, q_l04⟩, 78, 0), (.aload_n ⟨0, q_l04⟩, 79, 0), (.getfield 48, 80, 0), (.ldc 135, 83, 0), (.invokevirtual 126, 85, 0), (.ifCond .eq 7, 88, 95), (.iconst 1, 91, 0), (.goto 4, 92, 96)], 95)
def b_Fo_hasTables_95 : List (Instr × Nat × Nat) × Nat := ([(.iconst 0, 95, 0)], 96)
def b_Fo_hasTables_96 : List (Instr × Nat × Nat) × Nat := ([(.ireturn, 96, 0)], 97)
def B_Fo_hasTables : q_B := [(0, b_Fo_hasTables_0), (95, b_Fo_hasTables_95), (96, b_Fo_hasTables_96)]
theorem o_Fo_hasTables : q_okC M_Fo_hasTables B_Fo_hasTables = true := by decide +kernel
theorem u_Fo_hasTables : q_okM M_Fo_hasTables = true := by decide +kernel
theorem l_Fo_hasTables_0 : q_bk B_Fo_hasTables 0 = some ([(.aload_n ⟨0, q_l04⟩, 0, 0), (.aload_n ⟨0, q_l04⟩, 1, 0), (.getfield 30, 2, 0), (.ldc 125, 5, 0), (.invokevirtual 126, 7, 0), (.ifCond .eq 85, 10, 95), (.aload_n ⟨0, q_l04⟩, 13, 0), (.aload_n ⟨0, q_l04⟩, 14, 0), (.getfield 33, 15, 0), (.ldc 130, 18, 0), (.invokevirtual 126, 20, 0), (.ifCond .eq 72, 23, 95), (.aload_n ⟨0, q_l04⟩, 26, 0), (.aload_n ⟨0, q_l04⟩, 27, 0), (.getfield 36, 28, 0), (.ldc 131, 31, 0), (.invokevirtual 126, 33, 0), (.ifCond .eq 59, 36, 95), (.aload_n ⟨0, q_l04⟩, 39, 0), (.aload_n ⟨0, q_l04⟩, 40, 0), (.getfield 39, 41, 0), (.ldc 132, 44, 0), (.invokevirtual 126, 46, 0), (.ifCond .eq 46, 49, 95), (.aload_n ⟨0, q_l04⟩, 52, 0), (.aload_n ⟨0, q_l04⟩, 53, 0), (.getfield 42, 54, 0), (.ldc 133, 57, 0), (.invokevirtual 126, 59, 0), (.ifCond .eq 33, 62, 95), (.aload_n ⟨0, q_l04⟩, 65, 0), (.aload_n ⟨0, q_l04⟩, 66, 0), (.getfield 45, 67, 0), (.ldc 134, 70, 0), (.invokevirtual 126, 72, 0), (.ifCond .eq 20, 75, 95), (.aload_n ⟨0, q_l04⟩, 78, 0), (.aload_n ⟨0, q_l04⟩, 79, 0), (.getfield 48, 80, 0), (.ldc 135, 83, 0), (.invokevirtual 126, 85, 0), (.ifCond .eq 7, 88, 95), (.iconst 1, 91, 0), (.goto 4, 92, 96)], 95) := rfl
theorem l_Fo_hasTables_95 : q_bk B_Fo_hasTables 95 = some ([(.iconst 0, 95, 0)], 96) := rfl
theorem l_Fo_hasTables_96 : q_bk B_Fo_hasTables 96 = some ([(.ireturn, 96, 0)], 97) := rfl
def b_Fo_finds_0 : List (Instr × Nat × Nat) × Nat := ([(.aload_n ⟨0, q_l04⟩, 0, 0), (.invokevirtual 94, 1, 0), (.istore_n ⟨3, q_l34⟩, 4, 0), (.iconst 0, 5, 0), (.istore 4, 6, 0)], 8)
def b_Fo_finds_8 : List (Instr × Nat × Nat) × Nat := ([(.iload 4, 8, 0), (.iload_n ⟨3, q_l34⟩, 10, 0), (.if_icmp .ge 43, 11, 54), (.bipush 12, 14, 0), (.bipush 16, 16, 0), (.iload 4, 18, 0), (.imul, 20, 0), (.iadd, 21, 0), (.istore 5, 22, 0), (.aload_n ⟨0, q_l04⟩, 24, 0), (.getfield 23, 25, 0), (.iload 5, 28, 0), (.invokevirtual 98, 30, 0), (.iload_n ⟨2, q_l24⟩, 33, 0), (.i2l, 34, 0), (.lcmp, 35, 0), (.ifCond .ne 12, 36, 48), (.aload_n ⟨0, q_l04⟩, 39, 0), (.aload_n ⟨1, q_l14⟩, 40, 0), (.iload 5, 41, 0), (.invokevirtual 112, 43, 0), (.iconst 1, 46, 0), (.ireturn, 47, 0)], 48)
def b_Fo_finds_48 : List (Instr × Nat × Nat) × Nat := ([(.iinc 4 1, 48, 0), (.goto (-43), 51, 8)], 54)
def b_Fo_finds_54 : List (Instr × Nat × Nat) × Nat := ([(.iconst 0, 54, 0), (.ireturn, 55, 0)], 56)
def B_Fo_finds : q_B := [(0, b_Fo_finds_0), (8, b_Fo_finds_8), (48, b_Fo_finds_48), (54, b_Fo_finds_54)]
theorem o_Fo_finds : q_okC M_Fo_finds B_Fo_finds = true := by decide +kernel
theorem u_Fo_finds : q_okM M_Fo_finds = true := by decide +kernel
theorem l_Fo_finds_0 : q_bk B_Fo_finds 0 = some ([(.aload_n ⟨0, q_l04⟩, 0, 0), (.invokevirtual 94, 1, 0), (.istore_n ⟨3, q_l34⟩, 4, 0), (.iconst 0, 5, 0), (.istore 4, 6, 0)], 8) := rfl
theorem l_Fo_finds_8 : q_bk B_Fo_finds 8 = some ([(.iload 4, 8, 0), (.iload_n ⟨3, q_l34⟩, 10, 0), (.if_icmp .ge 43, 11, 54), (.bipush 12, 14, 0), (.bipush 16, 16, 0), (.iload 4, 18, 0), (.imul, 20, 0), (.iadd, 21, 0), (.istore 5, 22, 0), (.aload_n ⟨0, q_l04⟩, 24, 0), (.getfield 23, 25, 0), (.iload 5, 28, 0), (.invokevirtual 98, 30, 0), (.iload_n ⟨2, q_l24⟩, 33, 0), (.i2l, 34, 0), (.lcmp, 35, 0), (.ifCond .ne 12, 36, 48), (.aload_n ⟨0, q_l04⟩, 39, 0), (.aload_n ⟨1, q_l14⟩, 40, 0), (.iload 5, 41, 0), (.invokevirtual 112, 43, 0), (.iconst 1, 46, 0), (.ireturn, 47, 0)], 48) := rfl
theorem l_Fo_finds_48 : q_bk B_Fo_finds 48 = some ([(.iinc 4 1, 48, 0), (.goto (-43), 51, 8)], 54) := rfl
theorem l_Fo_finds_54 : q_bk B_Fo_finds 54 = some ([(.iconst 0, 54, 0), (.ireturn, 55, 0)], 56) := rfl
def b_Fo_hasCounts_0 : List (Instr × Nat × Nat) × Nat := ([(.aload_n ⟨0, q_l04⟩, 0, 0), (.getfield 36, 1, 0), (.getfield 120, 4, 0), (.bipush 54, 7, 0), (.if_icmp .lt 27, 9, 36), (.aload_n ⟨0, q_l04⟩, 12, 0), (.getfield 48, 13, 0), (.getfield 120, 16, 0), (.bipush 6, 19, 0), (.if_icmp .lt 15, 21, 36), (.aload_n ⟨0, q_l04⟩, 24, 0), (.getfield 39, 25, 0), (.getfield 120, 28, 0), (.bipush 36, 31, 0), (.if_icmp .ge 5, 33, 38)], 36)
def b_Fo_hasCounts_36 : List (Instr × Nat × Nat) × Nat := ([(.iconst 0, 36, 0), (.ireturn, 37, 0)], 38)
def b_Fo_hasCounts_38 : List (Instr × Nat × Nat) × Nat := ([(.aload_n ⟨0, q_l04⟩, 38, 0), (.aload_n ⟨0, q_l04⟩, 39, 0), (.getfield 36, 40, 0), (.bipush 18, 43, 0), (.invokevirtual 90, 45, 0), (.putfield 136, 48, 0), (.aload_n ⟨0, q_l04⟩, 51, 0), (.aload_n ⟨0, q_l04⟩, 52, 0), (.getfield 36, 53, 0), (.bipush 50, 56, 0), (.invokevirtual 90, 58, 0), (.iconst 1, 61, 0), (.if_icmp .ne 7, 62, 69), (.iconst 1, 65, 0), (.goto 4, 66, 70)], 69)
def b_Fo_hasCounts_69 : List (Instr × Nat × Nat) × Nat := ([(.iconst 0, 69, 0)], 70)
def b_Fo_hasCounts_70 : List (Instr × Nat × Nat) × Nat := ([(.putfield 139, 70, 0), (.aload_n ⟨0, q_l04⟩, 73, 0), (.aload_n ⟨0, q_l04⟩, 74, 0), (.getfield 48, 75, 0), (.iconst 4, 78, 0), (.invokevirtual 90, 79, 0), (.putfield 143, 82, 0), (.aload_n ⟨0, q_l04⟩, 85, 0), (.aload_n ⟨0, q_l04⟩, 86, 0), (.getfield 39, 87, 0), (.bipush 34, 90, 0), (.invokevirtual 90, 92, 0), (.putfield 146, 95, 0), (.aload_n ⟨0, q_l04⟩, 98, 0), (.getfield 136, 99, 0), (.bipush 16, 102, 0), (.if_icmp .lt 95, 104, 199), (.aload_n ⟨0, q_l04⟩, 107, 0), (.getfield 136, 108, 0), (.sipush 16384, 111, 0), (.if_icmp .gt 85, 114, 199), (.aload_n ⟨0, q_l04⟩, 117, 0), (.getfield 36, 118, 0), (.bipush 50, 121, 0), (.invokevirtual 90, 123, 0), (.iconst 1, 126, 0), (.if_icmp .gt 72, 127, 199), (.aload_n ⟨0, q_l04⟩, 130, 0), (.getfield 143, 131, 0), (.iconst 1, 134, 0), (.if_icmp .lt 64, 135, 199), (.aload_n ⟨0, q_l04⟩, 138, 0), (.getfield 143, 139, 0), (.sipush 256, 142, 0), (.if_icmp .gt 54, 145, 199), (.aload_n ⟨0, q_l04⟩, 148, 0), (.getfield 146, 149, 0), (.iconst 1, 152, 0), (.if_icmp .lt 46, 153, 199), (.aload_n ⟨0, q_l04⟩, 156, 0), (.getfield 146, 157, 0), (.aload_n ⟨0, q_l04⟩, 160, 0), (.getfield 143, 161, 0), (.if_icmp .gt 35, 164, 199), (.aload_n ⟨0, q_l04⟩, 167, 0), (.getfield 42, 168, 0), (.getfield 120, 171, 0), (.iconst 4, 174, 0), (.aload_n ⟨0, q_l04⟩, 175, 0), (.getfield 146, 176, 0), (.imul, 179, 0), (.iconst 2, 180, 0), (.aload_n ⟨0, q_l04⟩, 181, 0), (.getfield 143, 182, 0), (.aload_n ⟨0, q_l04⟩, 185, 0), (.getfield 146, 186, 0), (.isub, 189, 0), (.imul, 190, 0), (.iadd, 191, 0), (.if_icmp .lt 7, 192, 199), (.iconst 1, 195, 0), (.goto 4, 196, 200)], 199)
def b_Fo_hasCounts_199 : List (Instr × Nat × Nat) × Nat := ([(.iconst 0, 199, 0)], 200)
def b_Fo_hasCounts_200 : List (Instr × Nat × Nat) × Nat := ([(.ireturn, 200, 0)], 201)
def B_Fo_hasCounts : q_B := [(0, b_Fo_hasCounts_0), (36, b_Fo_hasCounts_36), (38, b_Fo_hasCounts_38), (69, b_Fo_hasCounts_69), (70, b_Fo_hasCounts_70), (199, b_Fo_hasCounts_199), (200, b_Fo_hasCounts_200)]
theorem o_Fo_hasCounts : q_okC M_Fo_hasCounts B_Fo_hasCounts = true := by decide +kernel
theorem u_Fo_hasCounts : q_okM M_Fo_hasCounts = true := by decide +kernel
theorem l_Fo_hasCounts_0 : q_bk B_Fo_hasCounts 0 = some ([(.aload_n ⟨0, q_l04⟩, 0, 0), (.getfield 36, 1, 0), (.getfield 120, 4, 0), (.bipush 54, 7, 0), (.if_icmp .lt 27, 9, 36), (.aload_n ⟨0, q_l04⟩, 12, 0), (.getfield 48, 13, 0), (.getfield 120, 16, 0), (.bipush 6, 19, 0), (.if_icmp .lt 15, 21, 36), (.aload_n ⟨0, q_l04⟩, 24, 0), (.getfield 39, 25, 0), (.getfield 120, 28, 0), (.bipush 36, 31, 0), (.if_icmp .ge 5, 33, 38)], 36) := rfl
theorem l_Fo_hasCounts_36 : q_bk B_Fo_hasCounts 36 = some ([(.iconst 0, 36, 0), (.ireturn, 37, 0)], 38) := rfl
theorem l_Fo_hasCounts_38 : q_bk B_Fo_hasCounts 38 = some ([(.aload_n ⟨0, q_l04⟩, 38, 0), (.aload_n ⟨0, q_l04⟩, 39, 0), (.getfield 36, 40, 0), (.bipush 18, 43, 0), (.invokevirtual 90, 45, 0), (.putfield 136, 48, 0), (.aload_n ⟨0, q_l04⟩, 51, 0), (.aload_n ⟨0, q_l04⟩, 52, 0), (.getfield 36, 53, 0), (.bipush 50, 56, 0), (.invokevirtual 90, 58, 0), (.iconst 1, 61, 0), (.if_icmp .ne 7, 62, 69), (.iconst 1, 65, 0), (.goto 4, 66, 70)], 69) := rfl
theorem l_Fo_hasCounts_69 : q_bk B_Fo_hasCounts 69 = some ([(.iconst 0, 69, 0)], 70) := rfl
theorem l_Fo_hasCounts_70 : q_bk B_Fo_hasCounts 70 = some ([(.putfield 139, 70, 0), (.aload_n ⟨0, q_l04⟩, 73, 0), (.aload_n ⟨0, q_l04⟩, 74, 0), (.getfield 48, 75, 0), (.iconst 4, 78, 0), (.invokevirtual 90, 79, 0), (.putfield 143, 82, 0), (.aload_n ⟨0, q_l04⟩, 85, 0), (.aload_n ⟨0, q_l04⟩, 86, 0), (.getfield 39, 87, 0), (.bipush 34, 90, 0), (.invokevirtual 90, 92, 0), (.putfield 146, 95, 0), (.aload_n ⟨0, q_l04⟩, 98, 0), (.getfield 136, 99, 0), (.bipush 16, 102, 0), (.if_icmp .lt 95, 104, 199), (.aload_n ⟨0, q_l04⟩, 107, 0), (.getfield 136, 108, 0), (.sipush 16384, 111, 0), (.if_icmp .gt 85, 114, 199), (.aload_n ⟨0, q_l04⟩, 117, 0), (.getfield 36, 118, 0), (.bipush 50, 121, 0), (.invokevirtual 90, 123, 0), (.iconst 1, 126, 0), (.if_icmp .gt 72, 127, 199), (.aload_n ⟨0, q_l04⟩, 130, 0), (.getfield 143, 131, 0), (.iconst 1, 134, 0), (.if_icmp .lt 64, 135, 199), (.aload_n ⟨0, q_l04⟩, 138, 0), (.getfield 143, 139, 0), (.sipush 256, 142, 0), (.if_icmp .gt 54, 145, 199), (.aload_n ⟨0, q_l04⟩, 148, 0), (.getfield 146, 149, 0), (.iconst 1, 152, 0), (.if_icmp .lt 46, 153, 199), (.aload_n ⟨0, q_l04⟩, 156, 0), (.getfield 146, 157, 0), (.aload_n ⟨0, q_l04⟩, 160, 0), (.getfield 143, 161, 0), (.if_icmp .gt 35, 164, 199), (.aload_n ⟨0, q_l04⟩, 167, 0), (.getfield 42, 168, 0), (.getfield 120, 171, 0), (.iconst 4, 174, 0), (.aload_n ⟨0, q_l04⟩, 175, 0), (.getfield 146, 176, 0), (.imul, 179, 0), (.iconst 2, 180, 0), (.aload_n ⟨0, q_l04⟩, 181, 0), (.getfield 143, 182, 0), (.aload_n ⟨0, q_l04⟩, 185, 0), (.getfield 146, 186, 0), (.isub, 189, 0), (.imul, 190, 0), (.iadd, 191, 0), (.if_icmp .lt 7, 192, 199), (.iconst 1, 195, 0), (.goto 4, 196, 200)], 199) := rfl
theorem l_Fo_hasCounts_199 : q_bk B_Fo_hasCounts 199 = some ([(.iconst 0, 199, 0)], 200) := rfl
theorem l_Fo_hasCounts_200 : q_bk B_Fo_hasCounts 200 = some ([(.ireturn, 200, 0)], 201) := rfl
def b_Fo_hasPlaces_0 : List (Instr × Nat × Nat) × Nat := ([(.aload_n ⟨0, q_l04⟩, 0, 0), (.getfield 45, 1, 0), (.lconst ⟨0, q_l02⟩, 4, 0), (.aload_n ⟨0, q_l04⟩, 5, 0), (.getfield 143, 6, 0), (.iconst 1, 9, 0), (.iadd, 10, 0), (.aload_n ⟨0, q_l04⟩, 11, 0), (.getfield 139, 12, 0), (.ifCond .eq 7, 15, 22), (.iconst 4, 18, 0), (.goto 4, 19, 23)], 22)
def b_Fo_hasPlaces_22 : List (Instr × Nat × Nat) × Nat := ([(.iconst 2, 22, 0)], 23)
def b_Fo_hasPlaces_23 : List (Instr × Nat × Nat) × Nat := ([(.imul, 23, 0), (.i2l, 24, 0), (.invokevirtual 106, 25, 0), (.ifCond .ne 5, 28, 33), (.iconst 0, 31, 0), (.ireturn, 32, 0)], 33)
def b_Fo_hasPlaces_33 : List (Instr × Nat × Nat) × Nat := ([(.lconst ⟨0, q_l02⟩, 33, 0), (.lstore_n ⟨1, q_l14⟩, 34, 0), (.iconst 0, 35, 0), (.istore_n ⟨3, q_l34⟩, 36, 0)], 37)
def b_Fo_hasPlaces_37 : List (Instr × Nat × Nat) × Nat := ([(.iload_n ⟨3, q_l34⟩, 37, 0), (.aload_n ⟨0, q_l04⟩, 38, 0), (.getfield 143, 39, 0), (.if_icmp .gt 28, 42, 70), (.aload_n ⟨0, q_l04⟩, 45, 0), (.iload_n ⟨3, q_l34⟩, 46, 0), (.invokevirtual 149, 47, 0), (.lstore 4, 50, 0), (.lload 4, 52, 0), (.lload_n ⟨1, q_l14⟩, 54, 0), (.lcmp, 55, 0), (.ifCond .ge 5, 56, 61), (.iconst 0, 59, 0), (.ireturn, 60, 0)], 61)
def b_Fo_hasPlaces_61 : List (Instr × Nat × Nat) × Nat := ([(.lload 4, 61, 0), (.lstore_n ⟨1, q_l14⟩, 63, 0), (.iinc 3 1, 64, 0), (.goto (-30), 67, 37)], 70)
def b_Fo_hasPlaces_70 : List (Instr × Nat × Nat) × Nat := ([(.lload_n ⟨1, q_l14⟩, 70, 0), (.aload_n ⟨0, q_l04⟩, 71, 0), (.getfield 33, 72, 0), (.getfield 120, 75, 0), (.i2l, 78, 0), (.lcmp, 79, 0), (.ifCond .gt 7, 80, 87), (.iconst 1, 83, 0), (.goto 4, 84, 88)], 87)
def b_Fo_hasPlaces_87 : List (Instr × Nat × Nat) × Nat := ([(.iconst 0, 87, 0)], 88)
def b_Fo_hasPlaces_88 : List (Instr × Nat × Nat) × Nat := ([(.ireturn, 88, 0)], 89)
def B_Fo_hasPlaces : q_B := [(0, b_Fo_hasPlaces_0), (22, b_Fo_hasPlaces_22), (23, b_Fo_hasPlaces_23), (33, b_Fo_hasPlaces_33), (37, b_Fo_hasPlaces_37), (61, b_Fo_hasPlaces_61), (70, b_Fo_hasPlaces_70), (87, b_Fo_hasPlaces_87), (88, b_Fo_hasPlaces_88)]
theorem o_Fo_hasPlaces : q_okC M_Fo_hasPlaces B_Fo_hasPlaces = true := by decide +kernel
theorem u_Fo_hasPlaces : q_okM M_Fo_hasPlaces = true := by decide +kernel
theorem l_Fo_hasPlaces_0 : q_bk B_Fo_hasPlaces 0 = some ([(.aload_n ⟨0, q_l04⟩, 0, 0), (.getfield 45, 1, 0), (.lconst ⟨0, q_l02⟩, 4, 0), (.aload_n ⟨0, q_l04⟩, 5, 0), (.getfield 143, 6, 0), (.iconst 1, 9, 0), (.iadd, 10, 0), (.aload_n ⟨0, q_l04⟩, 11, 0), (.getfield 139, 12, 0), (.ifCond .eq 7, 15, 22), (.iconst 4, 18, 0), (.goto 4, 19, 23)], 22) := rfl
theorem l_Fo_hasPlaces_22 : q_bk B_Fo_hasPlaces 22 = some ([(.iconst 2, 22, 0)], 23) := rfl
theorem l_Fo_hasPlaces_23 : q_bk B_Fo_hasPlaces 23 = some ([(.imul, 23, 0), (.i2l, 24, 0), (.invokevirtual 106, 25, 0), (.ifCond .ne 5, 28, 33), (.iconst 0, 31, 0), (.ireturn, 32, 0)], 33) := rfl
theorem l_Fo_hasPlaces_33 : q_bk B_Fo_hasPlaces 33 = some ([(.lconst ⟨0, q_l02⟩, 33, 0), (.lstore_n ⟨1, q_l14⟩, 34, 0), (.iconst 0, 35, 0), (.istore_n ⟨3, q_l34⟩, 36, 0)], 37) := rfl
theorem l_Fo_hasPlaces_37 : q_bk B_Fo_hasPlaces 37 = some ([(.iload_n ⟨3, q_l34⟩, 37, 0), (.aload_n ⟨0, q_l04⟩, 38, 0), (.getfield 143, 39, 0), (.if_icmp .gt 28, 42, 70), (.aload_n ⟨0, q_l04⟩, 45, 0), (.iload_n ⟨3, q_l34⟩, 46, 0), (.invokevirtual 149, 47, 0), (.lstore 4, 50, 0), (.lload 4, 52, 0), (.lload_n ⟨1, q_l14⟩, 54, 0), (.lcmp, 55, 0), (.ifCond .ge 5, 56, 61), (.iconst 0, 59, 0), (.ireturn, 60, 0)], 61) := rfl
theorem l_Fo_hasPlaces_61 : q_bk B_Fo_hasPlaces 61 = some ([(.lload 4, 61, 0), (.lstore_n ⟨1, q_l14⟩, 63, 0), (.iinc 3 1, 64, 0), (.goto (-30), 67, 37)], 70) := rfl
theorem l_Fo_hasPlaces_70 : q_bk B_Fo_hasPlaces 70 = some ([(.lload_n ⟨1, q_l14⟩, 70, 0), (.aload_n ⟨0, q_l04⟩, 71, 0), (.getfield 33, 72, 0), (.getfield 120, 75, 0), (.i2l, 78, 0), (.lcmp, 79, 0), (.ifCond .gt 7, 80, 87), (.iconst 1, 83, 0), (.goto 4, 84, 88)], 87) := rfl
theorem l_Fo_hasPlaces_87 : q_bk B_Fo_hasPlaces 87 = some ([(.iconst 0, 87, 0)], 88) := rfl
theorem l_Fo_hasPlaces_88 : q_bk B_Fo_hasPlaces 88 = some ([(.ireturn, 88, 0)], 89) := rfl
def b_Fo_dataPlace_0 : List (Instr × Nat × Nat) × Nat := ([(.aload_n ⟨0, q_l04⟩, 0, 0), (.getfield 139, 1, 0), (.ifCond .eq 16, 4, 20), (.aload_n ⟨0, q_l04⟩, 7, 0), (.getfield 45, 8, 0), (.iconst 4, 11, 0), (.iload_n ⟨1, q_l14⟩, 12, 0), (.imul, 13, 0), (.invokevirtual 98, 14, 0), (.goto 16, 17, 33)], 20)
def b_Fo_dataPlace_20 : List (Instr × Nat × Nat) × Nat := ([(.iconst 2, 20, 0), (.aload_n ⟨0, q_l04⟩, 21, 0), (.getfield 45, 22, 0), (.iconst 2, 25, 0), (.iload_n ⟨1, q_l14⟩, 26, 0), (.imul, 27, 0), (.invokevirtual 90, 28, 0), (.imul, 31, 0), (.i2l, 32, 0)], 33)
def b_Fo_dataPlace_33 : List (Instr × Nat × Nat) × Nat := ([(.lreturn, 33, 0)], 34)
def B_Fo_dataPlace : q_B := [(0, b_Fo_dataPlace_0), (20, b_Fo_dataPlace_20), (33, b_Fo_dataPlace_33)]
theorem o_Fo_dataPlace : q_okC M_Fo_dataPlace B_Fo_dataPlace = true := by decide +kernel
theorem u_Fo_dataPlace : q_okM M_Fo_dataPlace = true := by decide +kernel
theorem l_Fo_dataPlace_0 : q_bk B_Fo_dataPlace 0 = some ([(.aload_n ⟨0, q_l04⟩, 0, 0), (.getfield 139, 1, 0), (.ifCond .eq 16, 4, 20), (.aload_n ⟨0, q_l04⟩, 7, 0), (.getfield 45, 8, 0), (.iconst 4, 11, 0), (.iload_n ⟨1, q_l14⟩, 12, 0), (.imul, 13, 0), (.invokevirtual 98, 14, 0), (.goto 16, 17, 33)], 20) := rfl
theorem l_Fo_dataPlace_20 : q_bk B_Fo_dataPlace 20 = some ([(.iconst 2, 20, 0), (.aload_n ⟨0, q_l04⟩, 21, 0), (.getfield 45, 22, 0), (.iconst 2, 25, 0), (.iload_n ⟨1, q_l14⟩, 26, 0), (.imul, 27, 0), (.invokevirtual 90, 28, 0), (.imul, 31, 0), (.i2l, 32, 0)], 33) := rfl
theorem l_Fo_dataPlace_33 : q_bk B_Fo_dataPlace 33 = some ([(.lreturn, 33, 0)], 34) := rfl
def b_Fo_widthOf_0 : List (Instr × Nat × Nat) × Nat := ([(.aload_n ⟨0, q_l04⟩, 0, 0), (.getfield 42, 1, 0), (.iconst 4, 4, 0), (.iload_n ⟨1, q_l14⟩, 5, 0), (.aload_n ⟨0, q_l04⟩, 6, 0), (.getfield 146, 7, 0), (.iconst 1, 10, 0), (.isub, 11, 0), (.invokestatic 152, 12, 0), (.imul, 15, 0), (.invokevirtual 90, 16, 0), (.ireturn, 19, 0)], 20)
def B_Fo_widthOf : q_B := [(0, b_Fo_widthOf_0)]
theorem o_Fo_widthOf : q_okC M_Fo_widthOf B_Fo_widthOf = true := by decide +kernel
theorem u_Fo_widthOf : q_okM M_Fo_widthOf = true := by decide +kernel
theorem l_Fo_widthOf_0 : q_bk B_Fo_widthOf 0 = some ([(.aload_n ⟨0, q_l04⟩, 0, 0), (.getfield 42, 1, 0), (.iconst 4, 4, 0), (.iload_n ⟨1, q_l14⟩, 5, 0), (.aload_n ⟨0, q_l04⟩, 6, 0), (.getfield 146, 7, 0), (.iconst 1, 10, 0), (.isub, 11, 0), (.invokestatic 152, 12, 0), (.imul, 15, 0), (.invokevirtual 90, 16, 0), (.ireturn, 19, 0)], 20) := rfl
def b_Fo_leftOf_0 : List (Instr × Nat × Nat) × Nat := ([(.iload_n ⟨1, q_l14⟩, 0, 0), (.aload_n ⟨0, q_l04⟩, 1, 0), (.getfield 146, 2, 0), (.if_icmp .ge 18, 5, 23), (.aload_n ⟨0, q_l04⟩, 8, 0), (.getfield 42, 9, 0), (.iconst 4, 12, 0), (.iload_n ⟨1, q_l14⟩, 13, 0), (.imul, 14, 0), (.iconst 2, 15, 0), (.iadd, 16, 0), (.invokevirtual 158, 17, 0), (.goto 25, 20, 45)], 23)
def b_Fo_leftOf_23 : List (Instr × Nat × Nat) × Nat := ([(.aload_n ⟨0, q_l04⟩, 23, 0), (.getfield 42, 24, 0), (.iconst 4, 27, 0), (.aload_n ⟨0, q_l04⟩, 28, 0), (.getfield 146, 29, 0), (.imul, 32, 0), (.iconst 2, 33, 0), (.iload_n ⟨1, q_l14⟩, 34, 0), (.aload_n ⟨0, q_l04⟩, 35, 0), (.getfield 146, 36, 0), (.isub, 39, 0), (.imul, 40, 0), (.iadd, 41, 0), (.invokevirtual 158, 42, 0)], 45)
def b_Fo_leftOf_45 : List (Instr × Nat × Nat) × Nat := ([(.ireturn, 45, 0)], 46)
def B_Fo_leftOf : q_B := [(0, b_Fo_leftOf_0), (23, b_Fo_leftOf_23), (45, b_Fo_leftOf_45)]
theorem o_Fo_leftOf : q_okC M_Fo_leftOf B_Fo_leftOf = true := by decide +kernel
theorem u_Fo_leftOf : q_okM M_Fo_leftOf = true := by decide +kernel
theorem l_Fo_leftOf_0 : q_bk B_Fo_leftOf 0 = some ([(.iload_n ⟨1, q_l14⟩, 0, 0), (.aload_n ⟨0, q_l04⟩, 1, 0), (.getfield 146, 2, 0), (.if_icmp .ge 18, 5, 23), (.aload_n ⟨0, q_l04⟩, 8, 0), (.getfield 42, 9, 0), (.iconst 4, 12, 0), (.iload_n ⟨1, q_l14⟩, 13, 0), (.imul, 14, 0), (.iconst 2, 15, 0), (.iadd, 16, 0), (.invokevirtual 158, 17, 0), (.goto 25, 20, 45)], 23) := rfl
theorem l_Fo_leftOf_23 : q_bk B_Fo_leftOf 23 = some ([(.aload_n ⟨0, q_l04⟩, 23, 0), (.getfield 42, 24, 0), (.iconst 4, 27, 0), (.aload_n ⟨0, q_l04⟩, 28, 0), (.getfield 146, 29, 0), (.imul, 32, 0), (.iconst 2, 33, 0), (.iload_n ⟨1, q_l14⟩, 34, 0), (.aload_n ⟨0, q_l04⟩, 35, 0), (.getfield 146, 36, 0), (.isub, 39, 0), (.imul, 40, 0), (.iadd, 41, 0), (.invokevirtual 158, 42, 0)], 45) := rfl
theorem l_Fo_leftOf_45 : q_bk B_Fo_leftOf 45 = some ([(.ireturn, 45, 0)], 46) := rfl
end
section
def b_Ou_init_0 : List (Instr × Nat × Nat) × Nat := ([(.aload_n ⟨0, q_l04⟩, 0, 0), (.invokespecial 3, 1, 0), (.aload_n ⟨0, q_l04⟩, 4, 0), (.sipush 512, 5, 0), (.newarray .int, 8, 0), (.putfield 9, 10, 0), (.aload_n ⟨0, q_l04⟩, 13, 0), (.sipush 512, 14, 0), (.newarray .int, 17, 0), (.putfield 15, 19, 0), (.aload_n ⟨0, q_l04⟩, 22, 0), (.sipush 512, 23, 0), (.newarray .int, 26, 0), (.putfield 18, 28, 0), (.aload_n ⟨0, q_l04⟩, 31, 0), (.sipush 512, 32, 0), (.newarray .int, 35, 0), (.putfield 21, 37, 0), (.aload_n ⟨0, q_l04⟩, 40, 0), (.new 24, 41, 0), (.dup, 44, 0), (.aload_n ⟨1, q_l14⟩, 45, 0), (.invokespecial 26, 46, 0), (.putfield 29, 49, 0), (.aload_n ⟨0, q_l04⟩, 52, 0), (.bipush 6, 53, 0), (.anewarray 33, 55, 0), (.putfield 35, 58, 0), (.iconst 0, 61, 0), (.istore_n ⟨2, q_l24⟩, 62, 0)], 63)
def b_Ou_init_63 : List (Instr × Nat × Nat) × Nat := ([(.iload_n ⟨2, q_l24⟩, 63, 0), (.bipush 6, 64, 0), (.if_icmp .ge 23, 66, 89), (.aload_n ⟨0, q_l04⟩, 69, 0), (.getfield 35, 70, 0), (.iload_n ⟨2, q_l24⟩, 73, 0), (.new 33, 74, 0), (.dup, 77, 0), (.aload_n ⟨1, q_l14⟩, 78, 0), (.invokespecial 39, 79, 0), (.aastore, 82, 0), (.iinc 2 1, 83, 0), (.goto (-23), 86, 63)], 89)
def b_Ou_init_89 : List (Instr × Nat × Nat) × Nat := ([(.return_, 89, 0)], 90)
def B_Ou_init : q_B := [(0, b_Ou_init_0), (63, b_Ou_init_63), (89, b_Ou_init_89)]
theorem o_Ou_init : q_okC M_Ou_init B_Ou_init = true := by decide +kernel
theorem u_Ou_init : q_okM M_Ou_init = true := by decide +kernel
theorem l_Ou_init_0 : q_bk B_Ou_init 0 = some ([(.aload_n ⟨0, q_l04⟩, 0, 0), (.invokespecial 3, 1, 0), (.aload_n ⟨0, q_l04⟩, 4, 0), (.sipush 512, 5, 0), (.newarray .int, 8, 0), (.putfield 9, 10, 0), (.aload_n ⟨0, q_l04⟩, 13, 0), (.sipush 512, 14, 0), (.newarray .int, 17, 0), (.putfield 15, 19, 0), (.aload_n ⟨0, q_l04⟩, 22, 0), (.sipush 512, 23, 0), (.newarray .int, 26, 0), (.putfield 18, 28, 0), (.aload_n ⟨0, q_l04⟩, 31, 0), (.sipush 512, 32, 0), (.newarray .int, 35, 0), (.putfield 21, 37, 0), (.aload_n ⟨0, q_l04⟩, 40, 0), (.new 24, 41, 0), (.dup, 44, 0), (.aload_n ⟨1, q_l14⟩, 45, 0), (.invokespecial 26, 46, 0), (.putfield 29, 49, 0), (.aload_n ⟨0, q_l04⟩, 52, 0), (.bipush 6, 53, 0), (.anewarray 33, 55, 0), (.putfield 35, 58, 0), (.iconst 0, 61, 0), (.istore_n ⟨2, q_l24⟩, 62, 0)], 63) := rfl
theorem l_Ou_init_63 : q_bk B_Ou_init 63 = some ([(.iload_n ⟨2, q_l24⟩, 63, 0), (.bipush 6, 64, 0), (.if_icmp .ge 23, 66, 89), (.aload_n ⟨0, q_l04⟩, 69, 0), (.getfield 35, 70, 0), (.iload_n ⟨2, q_l24⟩, 73, 0), (.new 33, 74, 0), (.dup, 77, 0), (.aload_n ⟨1, q_l14⟩, 78, 0), (.invokespecial 39, 79, 0), (.aastore, 82, 0), (.iinc 2 1, 83, 0), (.goto (-23), 86, 63)], 89) := rfl
theorem l_Ou_init_89 : q_bk B_Ou_init 89 = some ([(.return_, 89, 0)], 90) := rfl
def b_Ou_readsAll_0 : List (Instr × Nat × Nat) × Nat := ([(.iconst 0, 0, 0), (.istore_n ⟨2, q_l24⟩, 1, 0)], 2)
def b_Ou_readsAll_2 : List (Instr × Nat × Nat) × Nat := ([(.iload_n ⟨2, q_l24⟩, 2, 0), (.aload_n ⟨1, q_l14⟩, 3, 0), (.getfield 40, 4, 0), (.if_icmp .ge 20, 7, 27), (.aload_n ⟨0, q_l04⟩, 10, 0), (.aload_n ⟨1, q_l14⟩, 11, 0), (.iload_n ⟨2, q_l24⟩, 12, 0), (.invokevirtual 46, 13, 0), (.ifCond .ne 5, 16, 21), (.iconst 0, 19, 0), (.ireturn, 20, 0)], 21)
def b_Ou_readsAll_21 : List (Instr × Nat × Nat) × Nat := ([(.iinc 2 1, 21, 0), (.goto (-22), 24, 2)], 27)
def b_Ou_readsAll_27 : List (Instr × Nat × Nat) × Nat := ([(.iconst 1, 27, 0), (.ireturn, 28, 0)], 29)
def B_Ou_readsAll : q_B := [(0, b_Ou_readsAll_0), (2, b_Ou_readsAll_2), (21, b_Ou_readsAll_21), (27, b_Ou_readsAll_27)]
theorem o_Ou_readsAll : q_okC M_Ou_readsAll B_Ou_readsAll = true := by decide +kernel
theorem u_Ou_readsAll : q_okM M_Ou_readsAll = true := by decide +kernel
theorem l_Ou_readsAll_0 : q_bk B_Ou_readsAll 0 = some ([(.iconst 0, 0, 0), (.istore_n ⟨2, q_l24⟩, 1, 0)], 2) := rfl
theorem l_Ou_readsAll_2 : q_bk B_Ou_readsAll 2 = some ([(.iload_n ⟨2, q_l24⟩, 2, 0), (.aload_n ⟨1, q_l14⟩, 3, 0), (.getfield 40, 4, 0), (.if_icmp .ge 20, 7, 27), (.aload_n ⟨0, q_l04⟩, 10, 0), (.aload_n ⟨1, q_l14⟩, 11, 0), (.iload_n ⟨2, q_l24⟩, 12, 0), (.invokevirtual 46, 13, 0), (.ifCond .ne 5, 16, 21), (.iconst 0, 19, 0), (.ireturn, 20, 0)], 21) := rfl
theorem l_Ou_readsAll_21 : q_bk B_Ou_readsAll 21 = some ([(.iinc 2 1, 21, 0), (.goto (-22), 24, 2)], 27) := rfl
theorem l_Ou_readsAll_27 : q_bk B_Ou_readsAll 27 = some ([(.iconst 1, 27, 0), (.ireturn, 28, 0)], 29) := rfl
def b_Ou_readGlyph_0 : List (Instr × Nat × Nat) × Nat := ([(.aload_n ⟨0, q_l04⟩, 0, 0), (.iconst 0, 1, 0), (.putfield 50, 2, 0), (.aload_n ⟨0, q_l04⟩, 5, 0), (.iconst 0, 6, 0), (.putfield 53, 7, 0), (.aload_n ⟨0, q_l04⟩, 10, 0), (.iconst 0, 11, 0), (.putfield 56, 12, 0), (.aload_n ⟨0, q_l04⟩, 15, 0), (.aload_n ⟨1, q_l14⟩, 16, 0), (.iload_n ⟨2, q_l24⟩, 17, 0), (.iconst 0, 18, 0), (.invokevirtual 59, 19, 0), (.ireturn, 22, 0)], 23)
def B_Ou_readGlyph : q_B := [(0, b_Ou_readGlyph_0)]
theorem o_Ou_readGlyph : q_okC M_Ou_readGlyph B_Ou_readGlyph = true := by decide +kernel
theorem u_Ou_readGlyph : q_okM M_Ou_readGlyph = true := by decide +kernel
theorem l_Ou_readGlyph_0 : q_bk B_Ou_readGlyph 0 = some ([(.aload_n ⟨0, q_l04⟩, 0, 0), (.iconst 0, 1, 0), (.putfield 50, 2, 0), (.aload_n ⟨0, q_l04⟩, 5, 0), (.iconst 0, 6, 0), (.putfield 53, 7, 0), (.aload_n ⟨0, q_l04⟩, 10, 0), (.iconst 0, 11, 0), (.putfield 56, 12, 0), (.aload_n ⟨0, q_l04⟩, 15, 0), (.aload_n ⟨1, q_l14⟩, 16, 0), (.iload_n ⟨2, q_l24⟩, 17, 0), (.iconst 0, 18, 0), (.invokevirtual 59, 19, 0), (.ireturn, 22, 0)], 23) := rfl
def b_Ou_addsGlyph_0 : List (Instr × Nat × Nat) × Nat := ([(.iload_n ⟨3, q_l34⟩, 0, 0), (.bipush 6, 1, 0), (.if_icmp .ge 11, 3, 14), (.iload_n ⟨2, q_l24⟩, 6, 0), (.aload_n ⟨1, q_l14⟩, 7, 0), (.getfield 40, 8, 0), (.if_icmp .lt 5, 11, 16)], 14)
def b_Ou_addsGlyph_14 : List (Instr × Nat × Nat) × Nat := ([(.iconst 0, 14, 0), (.ireturn, 15, 0)], 16)
def b_Ou_addsGlyph_16 : List (Instr × Nat × Nat) × Nat := ([(.aload_n ⟨0, q_l04⟩, 16, 0), (.iload_n ⟨2, q_l24⟩, 17, 0), (.putfield 63, 18, 0), (.aload_n ⟨1, q_l14⟩, 21, 0), (.iload_n ⟨2, q_l24⟩, 22, 0), (.invokevirtual 66, 23, 0), (.l2i, 26, 0), (.istore 4, 27, 0), (.aload_n ⟨1, q_l14⟩, 29, 0), (.iload_n ⟨2, q_l24⟩, 30, 0), (.iconst 1, 31, 0), (.iadd, 32, 0), (.invokevirtual 66, 33, 0), (.l2i, 36, 0), (.istore 5, 37, 0), (.iload 4, 39, 0), (.iload 5, 41, 0), (.if_icmp .ne 5, 43, 48), (.iconst 1, 46, 0), (.ireturn, 47, 0)], 48)
def b_Ou_addsGlyph_48 : List (Instr × Nat × Nat) × Nat := ([(.aload_n ⟨0, q_l04⟩, 48, 0), (.getfield 29, 49, 0), (.aload_n ⟨1, q_l14⟩, 52, 0), (.getfield 70, 53, 0), (.iload 4, 56, 0), (.iload 5, 58, 0), (.invokevirtual 74, 60, 0), (.aload_n ⟨0, q_l04⟩, 63, 0), (.getfield 29, 64, 0), (.invokevirtual 78, 67, 0), (.i2s, 70, 0), (.istore 6, 71, 0), (.aload_n ⟨0, q_l04⟩, 73, 0), (.getfield 29, 74, 0), (.bipush 8, 77, 0), (.invokevirtual 82, 79, 0), (.aload_n ⟨0, q_l04⟩, 82, 0), (.getfield 29, 83, 0), (.getfield 86, 86, 0), (.ifCond .eq 5, 89, 94), (.iconst 0, 92, 0), (.ireturn, 93, 0)], 94)
def b_Ou_addsGlyph_94 : List (Instr × Nat × Nat) × Nat := ([(.iload 6, 94, 0), (.iconst (-1), 96, 0), (.if_icmp .ne 27, 97, 124), (.aload_n ⟨0, q_l04⟩, 100, 0), (.getfield 35, 101, 0), (.iload_n ⟨3, q_l34⟩, 104, 0), (.aaload, 105, 0), (.getfield 90, 106, 0), (.aload_n ⟨0, q_l04⟩, 109, 0), (.getfield 29, 110, 0), (.invokevirtual 91, 113, 0), (.aload_n ⟨0, q_l04⟩, 116, 0), (.aload_n ⟨1, q_l14⟩, 117, 0), (.iload_n ⟨2, q_l24⟩, 118, 0), (.iload_n ⟨3, q_l34⟩, 119, 0), (.invokevirtual 95, 120, 0), (.ireturn, 123, 0)], 124)
def b_Ou_addsGlyph_124 : List (Instr × Nat × Nat) × Nat := ([(.iload 6, 124, 0), (.ifCond .lt 23, 126, 149), (.iload 6, 129, 0), (.bipush 32, 131, 0), (.if_icmp .gt 16, 133, 149), (.aload_n ⟨0, q_l04⟩, 136, 0), (.iload 6, 137, 0), (.invokevirtual 98, 139, 0), (.ifCond .eq 7, 142, 149), (.iconst 1, 145, 0), (.goto 4, 146, 150)], 149)
def b_Ou_addsGlyph_149 : List (Instr × Nat × Nat) × Nat := ([(.iconst 0, 149, 0)], 150)
def b_Ou_addsGlyph_150 : List (Instr × Nat × Nat) × Nat := ([(.ireturn, 150, 0)], 151)
def B_Ou_addsGlyph : q_B := [(0, b_Ou_addsGlyph_0), (14, b_Ou_addsGlyph_14), (16, b_Ou_addsGlyph_16), (48, b_Ou_addsGlyph_48), (94, b_Ou_addsGlyph_94), (124, b_Ou_addsGlyph_124), (149, b_Ou_addsGlyph_149), (150, b_Ou_addsGlyph_150)]
theorem o_Ou_addsGlyph : q_okC M_Ou_addsGlyph B_Ou_addsGlyph = true := by decide +kernel
theorem u_Ou_addsGlyph : q_okM M_Ou_addsGlyph = true := by decide +kernel
theorem l_Ou_addsGlyph_0 : q_bk B_Ou_addsGlyph 0 = some ([(.iload_n ⟨3, q_l34⟩, 0, 0), (.bipush 6, 1, 0), (.if_icmp .ge 11, 3, 14), (.iload_n ⟨2, q_l24⟩, 6, 0), (.aload_n ⟨1, q_l14⟩, 7, 0), (.getfield 40, 8, 0), (.if_icmp .lt 5, 11, 16)], 14) := rfl
theorem l_Ou_addsGlyph_14 : q_bk B_Ou_addsGlyph 14 = some ([(.iconst 0, 14, 0), (.ireturn, 15, 0)], 16) := rfl
theorem l_Ou_addsGlyph_16 : q_bk B_Ou_addsGlyph 16 = some ([(.aload_n ⟨0, q_l04⟩, 16, 0), (.iload_n ⟨2, q_l24⟩, 17, 0), (.putfield 63, 18, 0), (.aload_n ⟨1, q_l14⟩, 21, 0), (.iload_n ⟨2, q_l24⟩, 22, 0), (.invokevirtual 66, 23, 0), (.l2i, 26, 0), (.istore 4, 27, 0), (.aload_n ⟨1, q_l14⟩, 29, 0), (.iload_n ⟨2, q_l24⟩, 30, 0), (.iconst 1, 31, 0), (.iadd, 32, 0), (.invokevirtual 66, 33, 0), (.l2i, 36, 0), (.istore 5, 37, 0), (.iload 4, 39, 0), (.iload 5, 41, 0), (.if_icmp .ne 5, 43, 48), (.iconst 1, 46, 0), (.ireturn, 47, 0)], 48) := rfl
theorem l_Ou_addsGlyph_48 : q_bk B_Ou_addsGlyph 48 = some ([(.aload_n ⟨0, q_l04⟩, 48, 0), (.getfield 29, 49, 0), (.aload_n ⟨1, q_l14⟩, 52, 0), (.getfield 70, 53, 0), (.iload 4, 56, 0), (.iload 5, 58, 0), (.invokevirtual 74, 60, 0), (.aload_n ⟨0, q_l04⟩, 63, 0), (.getfield 29, 64, 0), (.invokevirtual 78, 67, 0), (.i2s, 70, 0), (.istore 6, 71, 0), (.aload_n ⟨0, q_l04⟩, 73, 0), (.getfield 29, 74, 0), (.bipush 8, 77, 0), (.invokevirtual 82, 79, 0), (.aload_n ⟨0, q_l04⟩, 82, 0), (.getfield 29, 83, 0), (.getfield 86, 86, 0), (.ifCond .eq 5, 89, 94), (.iconst 0, 92, 0), (.ireturn, 93, 0)], 94) := rfl
theorem l_Ou_addsGlyph_94 : q_bk B_Ou_addsGlyph 94 = some ([(.iload 6, 94, 0), (.iconst (-1), 96, 0), (.if_icmp .ne 27, 97, 124), (.aload_n ⟨0, q_l04⟩, 100, 0), (.getfield 35, 101, 0), (.iload_n ⟨3, q_l34⟩, 104, 0), (.aaload, 105, 0), (.getfield 90, 106, 0), (.aload_n ⟨0, q_l04⟩, 109, 0), (.getfield 29, 110, 0), (.invokevirtual 91, 113, 0), (.aload_n ⟨0, q_l04⟩, 116, 0), (.aload_n ⟨1, q_l14⟩, 117, 0), (.iload_n ⟨2, q_l24⟩, 118, 0), (.iload_n ⟨3, q_l34⟩, 119, 0), (.invokevirtual 95, 120, 0), (.ireturn, 123, 0)], 124) := rfl
theorem l_Ou_addsGlyph_124 : q_bk B_Ou_addsGlyph 124 = some ([(.iload 6, 124, 0), (.ifCond .lt 23, 126, 149), (.iload 6, 129, 0), (.bipush 32, 131, 0), (.if_icmp .gt 16, 133, 149), (.aload_n ⟨0, q_l04⟩, 136, 0), (.iload 6, 137, 0), (.invokevirtual 98, 139, 0), (.ifCond .eq 7, 142, 149), (.iconst 1, 145, 0), (.goto 4, 146, 150)], 149) := rfl
theorem l_Ou_addsGlyph_149 : q_bk B_Ou_addsGlyph 149 = some ([(.iconst 0, 149, 0)], 150) := rfl
theorem l_Ou_addsGlyph_150 : q_bk B_Ou_addsGlyph 150 = some ([(.ireturn, 150, 0)], 151) := rfl
def b_Ou_addsParts_0 : List (Instr × Nat × Nat) × Nat := ([(.aload_n ⟨0, q_l04⟩, 0, 0), (.getfield 35, 1, 0), (.iload_n ⟨3, q_l34⟩, 4, 0), (.aaload, 5, 0), (.astore 4, 6, 0), (.aload_n ⟨0, q_l04⟩, 8, 0), (.getfield 50, 9, 0), (.istore 5, 12, 0), (.iload_n ⟨2, q_l24⟩, 14, 0), (.istore 6, 15, 0), (.iconst 1, 17, 0), (.istore 7, 18, 0), (.iconst 0, 20, 0), (.istore 8, 21, 0)], 23)
def b_Ou_addsParts_23 : List (Instr × Nat × Nat) × Nat := ([(.iload 8, 23, 0), (.bipush 16, 25, 0), (.if_icmp .ge 104, 27, 131), (.iload 7, 30, 0), (.ifCond .eq 99, 32, 131), (.aload_n ⟨0, q_l04⟩, 35, 0), (.dup, 36, 0), (.getfield 56, 37, 0), (.iconst 1, 40, 0), (.iadd, 41, 0), (.putfield 56, 42, 0), (.aload_n ⟨0, q_l04⟩, 45, 0), (.getfield 50, 46, 0), (.istore 9, 49, 0), (.aload_n ⟨0, q_l04⟩, 51, 0), (.getfield 56, 52, 0), (.bipush 64, 55, 0), (.if_icmp .gt 40, 57, 97), (.aload 4, 60, 0), (.invokevirtual 118, 62, 0), (.ifCond .eq 32, 65, 97), (.aload_n ⟨0, q_l04⟩, 68, 0), (.aload_n ⟨1, q_l14⟩, 69, 0), (.aload 4, 70, 0), (.getfield 122, 72, 0), (.iload_n ⟨3, q_l34⟩, 75, 0), (.iconst 1, 76, 0), (.iadd, 77, 0), (.invokevirtual 59, 78, 0), (.ifCond .eq 16, 81, 97), (.aload_n ⟨0, q_l04⟩, 84, 0), (.aload 4, 85, 0), (.iload 5, 87, 0), (.iload 9, 89, 0), (.invokevirtual 125, 91, 0), (.ifCond .ne 5, 94, 99)], 97)
def b_Ou_addsParts_97 : List (Instr × Nat × Nat) × Nat := ([(.iconst 0, 97, 0), (.ireturn, 98, 0)], 99)
def b_Ou_addsParts_99 : List (Instr × Nat × Nat) × Nat := ([(.aload 4, 99, 0), (.sipush 512, 101, 0), (.invokevirtual 129, 104, 0), (.ifCond .eq 9, 107, 116), (.aload_n ⟨0, q_l04⟩, 110, 0), (.getfield 63, 111, 0), (.istore 6, 114, 0)], 116)
def b_Ou_addsParts_116 : List (Instr × Nat × Nat) × Nat := ([(.aload 4, 116, 0), (.bipush 32, 118, 0), (.invokevirtual 129, 120, 0), (.istore 7, 123, 0), (.iinc 8 1, 125, 0), (.goto (-105), 128, 23)], 131)
def b_Ou_addsParts_131 : List (Instr × Nat × Nat) × Nat := ([(.aload_n ⟨0, q_l04⟩, 131, 0), (.iload 6, 132, 0), (.putfield 63, 134, 0), (.iload 7, 137, 0), (.ifCond .ne 7, 139, 146), (.iconst 1, 142, 0), (.goto 4, 143, 147)], 146)
def b_Ou_addsParts_146 : List (Instr × Nat × Nat) × Nat := ([(.iconst 0, 146, 0)], 147)
def b_Ou_addsParts_147 : List (Instr × Nat × Nat) × Nat := ([(.ireturn, 147, 0)], 148)
def B_Ou_addsParts : q_B := [(0, b_Ou_addsParts_0), (23, b_Ou_addsParts_23), (97, b_Ou_addsParts_97), (99, b_Ou_addsParts_99), (116, b_Ou_addsParts_116), (131, b_Ou_addsParts_131), (146, b_Ou_addsParts_146), (147, b_Ou_addsParts_147)]
theorem o_Ou_addsParts : q_okC M_Ou_addsParts B_Ou_addsParts = true := by decide +kernel
theorem u_Ou_addsParts : q_okM M_Ou_addsParts = true := by decide +kernel
theorem l_Ou_addsParts_0 : q_bk B_Ou_addsParts 0 = some ([(.aload_n ⟨0, q_l04⟩, 0, 0), (.getfield 35, 1, 0), (.iload_n ⟨3, q_l34⟩, 4, 0), (.aaload, 5, 0), (.astore 4, 6, 0), (.aload_n ⟨0, q_l04⟩, 8, 0), (.getfield 50, 9, 0), (.istore 5, 12, 0), (.iload_n ⟨2, q_l24⟩, 14, 0), (.istore 6, 15, 0), (.iconst 1, 17, 0), (.istore 7, 18, 0), (.iconst 0, 20, 0), (.istore 8, 21, 0)], 23) := rfl
theorem l_Ou_addsParts_23 : q_bk B_Ou_addsParts 23 = some ([(.iload 8, 23, 0), (.bipush 16, 25, 0), (.if_icmp .ge 104, 27, 131), (.iload 7, 30, 0), (.ifCond .eq 99, 32, 131), (.aload_n ⟨0, q_l04⟩, 35, 0), (.dup, 36, 0), (.getfield 56, 37, 0), (.iconst 1, 40, 0), (.iadd, 41, 0), (.putfield 56, 42, 0), (.aload_n ⟨0, q_l04⟩, 45, 0), (.getfield 50, 46, 0), (.istore 9, 49, 0), (.aload_n ⟨0, q_l04⟩, 51, 0), (.getfield 56, 52, 0), (.bipush 64, 55, 0), (.if_icmp .gt 40, 57, 97), (.aload 4, 60, 0), (.invokevirtual 118, 62, 0), (.ifCond .eq 32, 65, 97), (.aload_n ⟨0, q_l04⟩, 68, 0), (.aload_n ⟨1, q_l14⟩, 69, 0), (.aload 4, 70, 0), (.getfield 122, 72, 0), (.iload_n ⟨3, q_l34⟩, 75, 0), (.iconst 1, 76, 0), (.iadd, 77, 0), (.invokevirtual 59, 78, 0), (.ifCond .eq 16, 81, 97), (.aload_n ⟨0, q_l04⟩, 84, 0), (.aload 4, 85, 0), (.iload 5, 87, 0), (.iload 9, 89, 0), (.invokevirtual 125, 91, 0), (.ifCond .ne 5, 94, 99)], 97) := rfl
theorem l_Ou_addsParts_97 : q_bk B_Ou_addsParts 97 = some ([(.iconst 0, 97, 0), (.ireturn, 98, 0)], 99) := rfl
theorem l_Ou_addsParts_99 : q_bk B_Ou_addsParts 99 = some ([(.aload 4, 99, 0), (.sipush 512, 101, 0), (.invokevirtual 129, 104, 0), (.ifCond .eq 9, 107, 116), (.aload_n ⟨0, q_l04⟩, 110, 0), (.getfield 63, 111, 0), (.istore 6, 114, 0)], 116) := rfl
theorem l_Ou_addsParts_116 : q_bk B_Ou_addsParts 116 = some ([(.aload 4, 116, 0), (.bipush 32, 118, 0), (.invokevirtual 129, 120, 0), (.istore 7, 123, 0), (.iinc 8 1, 125, 0), (.goto (-105), 128, 23)], 131) := rfl
theorem l_Ou_addsParts_131 : q_bk B_Ou_addsParts 131 = some ([(.aload_n ⟨0, q_l04⟩, 131, 0), (.iload 6, 132, 0), (.putfield 63, 134, 0), (.iload 7, 137, 0), (.ifCond .ne 7, 139, 146), (.iconst 1, 142, 0), (.goto 4, 143, 147)], 146) := rfl
theorem l_Ou_addsParts_146 : q_bk B_Ou_addsParts 146 = some ([(.iconst 0, 146, 0)], 147) := rfl
theorem l_Ou_addsParts_147 : q_bk B_Ou_addsParts 147 = some ([(.ireturn, 147, 0)], 148) := rfl
def b_Ou_isLaid_0 : List (Instr × Nat × Nat) × Nat := ([(.aload_n ⟨1, q_l14⟩, 0, 0), (.getfield 132, 1, 0), (.istore 4, 4, 0), (.aload_n ⟨1, q_l14⟩, 6, 0), (.getfield 135, 7, 0), (.istore 5, 10, 0), (.aload_n ⟨1, q_l14⟩, 12, 0), (.iconst 2, 13, 0), (.invokevirtual 129, 14, 0), (.ifCond .ne 103, 17, 120), (.aload_n ⟨1, q_l14⟩, 20, 0), (.getfield 132, 21, 0), (.iload_n ⟨3, q_l34⟩, 24, 0), (.iload_n ⟨2, q_l24⟩, 25, 0), (.isub, 26, 0), (.if_icmp .ge 16, 27, 43), (.aload_n ⟨1, q_l14⟩, 30, 0), (.getfield 135, 31, 0), (.aload_n ⟨0, q_l04⟩, 34, 0), (.getfield 50, 35, 0), (.iload_n ⟨3, q_l34⟩, 38, 0), (.isub, 39, 0), (.if_icmp .lt 5, 40, 45)], 43)
def b_Ou_isLaid_43 : List (Instr × Nat × Nat) × Nat := ([(.iconst 0, 43, 0), (.ireturn, 44, 0)], 45)
def b_Ou_isLaid_45 : List (Instr × Nat × Nat) × Nat := ([(.iload_n ⟨2, q_l24⟩, 45, 0), (.aload_n ⟨1, q_l14⟩, 46, 0), (.getfield 132, 47, 0), (.iadd, 50, 0), (.istore 6, 51, 0), (.iload_n ⟨3, q_l34⟩, 53, 0), (.aload_n ⟨1, q_l14⟩, 54, 0), (.getfield 135, 55, 0), (.iadd, 58, 0), (.istore 7, 59, 0), (.aload_n ⟨0, q_l04⟩, 61, 0), (.getfield 9, 62, 0), (.iload 6, 65, 0), (.iaload, 67, 0), (.aload_n ⟨1, q_l14⟩, 68, 0), (.aload_n ⟨0, q_l04⟩, 69, 0), (.getfield 9, 70, 0), (.iload 7, 73, 0), (.iaload, 75, 0), (.aload_n ⟨0, q_l04⟩, 76, 0), (.getfield 15, 77, 0), (.iload 7, 80, 0), (.iaload, 82, 0), (.invokevirtual 138, 83, 0), (.isub, 86, 0), (.istore 4, 87, 0), (.aload_n ⟨0, q_l04⟩, 89, 0), (.getfield 15, 90, 0), (.iload 6, 93, 0), (.iaload, 95, 0), (.aload_n ⟨1, q_l14⟩, 96, 0), (.aload_n ⟨0, q_l04⟩, 97, 0), (.getfield 9, 98, 0), (.iload 7, 101, 0), (.iaload, 103, 0), (.aload_n ⟨0, q_l04⟩, 104, 0), (.getfield 15, 105, 0), (.iload 7, 108, 0), (.iaload, 110, 0), (.invokevirtual 142, 111, 0), (.isub, 114, 0), (.istore 5, 115, 0), (.goto 41, 117, 158)], 120)
def b_Ou_isLaid_120 : List (Instr × Nat × Nat) × Nat := ([(.aload_n ⟨1, q_l14⟩, 120, 0), (.sipush 2048, 121, 0), (.invokevirtual 129, 124, 0), (.ifCond .eq 31, 127, 158), (.aload_n ⟨1, q_l14⟩, 130, 0), (.aload_n ⟨1, q_l14⟩, 131, 0), (.getfield 132, 132, 0), (.aload_n ⟨1, q_l14⟩, 135, 0), (.getfield 135, 136, 0), (.invokevirtual 138, 139, 0), (.istore 4, 142, 0), (.aload_n ⟨1, q_l14⟩, 144, 0), (.aload_n ⟨1, q_l14⟩, 145, 0), (.getfield 132, 146, 0), (.aload_n ⟨1, q_l14⟩, 149, 0), (.getfield 135, 150, 0), (.invokevirtual 142, 153, 0), (.istore 5, 156, 0)], 158)
def b_Ou_isLaid_158 : List (Instr × Nat × Nat) × Nat := ([(.iload_n ⟨3, q_l34⟩, 158, 0), (.istore 6, 159, 0)], 161)
def b_Ou_isLaid_161 : List (Instr × Nat × Nat) × Nat := ([(.iload 6, 161, 0), (.aload_n ⟨0, q_l04⟩, 163, 0), (.getfield 50, 164, 0), (.if_icmp .ge 93, 167, 260), (.aload_n ⟨1, q_l14⟩, 170, 0), (.aload_n ⟨0, q_l04⟩, 171, 0), (.getfield 9, 172, 0), (.iload 6, 175, 0), (.iaload, 177, 0), (.aload_n ⟨0, q_l04⟩, 178, 0), (.getfield 15, 179, 0), (.iload 6, 182, 0), (.iaload, 184, 0), (.invokevirtual 138, 185, 0), (.iload 4, 188, 0), (.iadd, 190, 0), (.istore 7, 191, 0), (.aload_n ⟨1, q_l14⟩, 193, 0), (.aload_n ⟨0, q_l04⟩, 194, 0), (.getfield 9, 195, 0), (.iload 6, 198, 0), (.iaload, 200, 0), (.aload_n ⟨0, q_l04⟩, 201, 0), (.getfield 15, 202, 0), (.iload 6, 205, 0), (.iaload, 207, 0), (.invokevirtual 142, 208, 0), (.iload 5, 211, 0), (.iadd, 213, 0), (.istore 8, 214, 0), (.aload_n ⟨0, q_l04⟩, 216, 0), (.iload 7, 217, 0), (.invokevirtual 115, 219, 0), (.ifCond .eq 12, 222, 234), (.aload_n ⟨0, q_l04⟩, 225, 0), (.iload 8, 226, 0), (.invokevirtual 115, 228, 0), (.ifCond .ne 5, 231, 236)], 234)
def b_Ou_isLaid_234 : List (Instr × Nat × Nat) × Nat := ([(.iconst 0, 234, 0), (.ireturn, 235, 0)], 236)
def b_Ou_isLaid_236 : List (Instr × Nat × Nat) × Nat := ([(.aload_n ⟨0, q_l04⟩, 236, 0), (.getfield 9, 237, 0), (.iload 6, 240, 0), (.iload 7, 242, 0), (.iastore, 244, 0), (.aload_n ⟨0, q_l04⟩, 245, 0), (.getfield 15, 246, 0), (.iload 6, 249, 0), (.iload 8, 251, 0), (.iastore, 253, 0), (.iinc 6 1, 254, 0), (.goto (-96), 257, 161)], 260)
def b_Ou_isLaid_260 : List (Instr × Nat × Nat) × Nat := ([(.iconst 1, 260, 0), (.ireturn, 261, 0)], 262)
def B_Ou_isLaid : q_B := [(0, b_Ou_isLaid_0), (43, b_Ou_isLaid_43), (45, b_Ou_isLaid_45), (120, b_Ou_isLaid_120), (158, b_Ou_isLaid_158), (161, b_Ou_isLaid_161), (234, b_Ou_isLaid_234), (236, b_Ou_isLaid_236), (260, b_Ou_isLaid_260)]
theorem o_Ou_isLaid : q_okC M_Ou_isLaid B_Ou_isLaid = true := by decide +kernel
theorem u_Ou_isLaid : q_okM M_Ou_isLaid = true := by decide +kernel
theorem l_Ou_isLaid_0 : q_bk B_Ou_isLaid 0 = some ([(.aload_n ⟨1, q_l14⟩, 0, 0), (.getfield 132, 1, 0), (.istore 4, 4, 0), (.aload_n ⟨1, q_l14⟩, 6, 0), (.getfield 135, 7, 0), (.istore 5, 10, 0), (.aload_n ⟨1, q_l14⟩, 12, 0), (.iconst 2, 13, 0), (.invokevirtual 129, 14, 0), (.ifCond .ne 103, 17, 120), (.aload_n ⟨1, q_l14⟩, 20, 0), (.getfield 132, 21, 0), (.iload_n ⟨3, q_l34⟩, 24, 0), (.iload_n ⟨2, q_l24⟩, 25, 0), (.isub, 26, 0), (.if_icmp .ge 16, 27, 43), (.aload_n ⟨1, q_l14⟩, 30, 0), (.getfield 135, 31, 0), (.aload_n ⟨0, q_l04⟩, 34, 0), (.getfield 50, 35, 0), (.iload_n ⟨3, q_l34⟩, 38, 0), (.isub, 39, 0), (.if_icmp .lt 5, 40, 45)], 43) := rfl
theorem l_Ou_isLaid_43 : q_bk B_Ou_isLaid 43 = some ([(.iconst 0, 43, 0), (.ireturn, 44, 0)], 45) := rfl
theorem l_Ou_isLaid_45 : q_bk B_Ou_isLaid 45 = some ([(.iload_n ⟨2, q_l24⟩, 45, 0), (.aload_n ⟨1, q_l14⟩, 46, 0), (.getfield 132, 47, 0), (.iadd, 50, 0), (.istore 6, 51, 0), (.iload_n ⟨3, q_l34⟩, 53, 0), (.aload_n ⟨1, q_l14⟩, 54, 0), (.getfield 135, 55, 0), (.iadd, 58, 0), (.istore 7, 59, 0), (.aload_n ⟨0, q_l04⟩, 61, 0), (.getfield 9, 62, 0), (.iload 6, 65, 0), (.iaload, 67, 0), (.aload_n ⟨1, q_l14⟩, 68, 0), (.aload_n ⟨0, q_l04⟩, 69, 0), (.getfield 9, 70, 0), (.iload 7, 73, 0), (.iaload, 75, 0), (.aload_n ⟨0, q_l04⟩, 76, 0), (.getfield 15, 77, 0), (.iload 7, 80, 0), (.iaload, 82, 0), (.invokevirtual 138, 83, 0), (.isub, 86, 0), (.istore 4, 87, 0), (.aload_n ⟨0, q_l04⟩, 89, 0), (.getfield 15, 90, 0), (.iload 6, 93, 0), (.iaload, 95, 0), (.aload_n ⟨1, q_l14⟩, 96, 0), (.aload_n ⟨0, q_l04⟩, 97, 0), (.getfield 9, 98, 0), (.iload 7, 101, 0), (.iaload, 103, 0), (.aload_n ⟨0, q_l04⟩, 104, 0), (.getfield 15, 105, 0), (.iload 7, 108, 0), (.iaload, 110, 0), (.invokevirtual 142, 111, 0), (.isub, 114, 0), (.istore 5, 115, 0), (.goto 41, 117, 158)], 120) := rfl
theorem l_Ou_isLaid_120 : q_bk B_Ou_isLaid 120 = some ([(.aload_n ⟨1, q_l14⟩, 120, 0), (.sipush 2048, 121, 0), (.invokevirtual 129, 124, 0), (.ifCond .eq 31, 127, 158), (.aload_n ⟨1, q_l14⟩, 130, 0), (.aload_n ⟨1, q_l14⟩, 131, 0), (.getfield 132, 132, 0), (.aload_n ⟨1, q_l14⟩, 135, 0), (.getfield 135, 136, 0), (.invokevirtual 138, 139, 0), (.istore 4, 142, 0), (.aload_n ⟨1, q_l14⟩, 144, 0), (.aload_n ⟨1, q_l14⟩, 145, 0), (.getfield 132, 146, 0), (.aload_n ⟨1, q_l14⟩, 149, 0), (.getfield 135, 150, 0), (.invokevirtual 142, 153, 0), (.istore 5, 156, 0)], 158) := rfl
theorem l_Ou_isLaid_158 : q_bk B_Ou_isLaid 158 = some ([(.iload_n ⟨3, q_l34⟩, 158, 0), (.istore 6, 159, 0)], 161) := rfl
theorem l_Ou_isLaid_161 : q_bk B_Ou_isLaid 161 = some ([(.iload 6, 161, 0), (.aload_n ⟨0, q_l04⟩, 163, 0), (.getfield 50, 164, 0), (.if_icmp .ge 93, 167, 260), (.aload_n ⟨1, q_l14⟩, 170, 0), (.aload_n ⟨0, q_l04⟩, 171, 0), (.getfield 9, 172, 0), (.iload 6, 175, 0), (.iaload, 177, 0), (.aload_n ⟨0, q_l04⟩, 178, 0), (.getfield 15, 179, 0), (.iload 6, 182, 0), (.iaload, 184, 0), (.invokevirtual 138, 185, 0), (.iload 4, 188, 0), (.iadd, 190, 0), (.istore 7, 191, 0), (.aload_n ⟨1, q_l14⟩, 193, 0), (.aload_n ⟨0, q_l04⟩, 194, 0), (.getfield 9, 195, 0), (.iload 6, 198, 0), (.iaload, 200, 0), (.aload_n ⟨0, q_l04⟩, 201, 0), (.getfield 15, 202, 0), (.iload 6, 205, 0), (.iaload, 207, 0), (.invokevirtual 142, 208, 0), (.iload 5, 211, 0), (.iadd, 213, 0), (.istore 8, 214, 0), (.aload_n ⟨0, q_l04⟩, 216, 0), (.iload 7, 217, 0), (.invokevirtual 115, 219, 0), (.ifCond .eq 12, 222, 234), (.aload_n ⟨0, q_l04⟩, 225, 0), (.iload 8, 226, 0), (.invokevirtual 115, 228, 0), (.ifCond .ne 5, 231, 236)], 234) := rfl
theorem l_Ou_isLaid_234 : q_bk B_Ou_isLaid 234 = some ([(.iconst 0, 234, 0), (.ireturn, 235, 0)], 236) := rfl
theorem l_Ou_isLaid_236 : q_bk B_Ou_isLaid 236 = some ([(.aload_n ⟨0, q_l04⟩, 236, 0), (.getfield 9, 237, 0), (.iload 6, 240, 0), (.iload 7, 242, 0), (.iastore, 244, 0), (.aload_n ⟨0, q_l04⟩, 245, 0), (.getfield 15, 246, 0), (.iload 6, 249, 0), (.iload 8, 251, 0), (.iastore, 253, 0), (.iinc 6 1, 254, 0), (.goto (-96), 257, 161)], 260) := rfl
theorem l_Ou_isLaid_260 : q_bk B_Ou_isLaid 260 = some ([(.iconst 1, 260, 0), (.ireturn, 261, 0)], 262) := rfl
def b_Ou_isCoordinate_0 : List (Instr × Nat × Nat) × Nat := ([(.iload_n ⟨1, q_l14⟩, 0, 0), (.sipush (-16384), 1, 0), (.if_icmp .lt 14, 4, 18), (.iload_n ⟨1, q_l14⟩, 7, 0), (.sipush 16383, 8, 0), (.if_icmp .gt 7, 11, 18), (.iconst 1, 14, 0), (.goto 4, 15, 19)], 18)
def b_Ou_isCoordinate_18 : List (Instr × Nat × Nat) × Nat := ([(.iconst 0, 18, 0)], 19)
def b_Ou_isCoordinate_19 : List (Instr × Nat × Nat) × Nat := ([(.ireturn, 19, 0)], 20)
def B_Ou_isCoordinate : q_B := [(0, b_Ou_isCoordinate_0), (18, b_Ou_isCoordinate_18), (19, b_Ou_isCoordinate_19)]
theorem o_Ou_isCoordinate : q_okC M_Ou_isCoordinate B_Ou_isCoordinate = true := by decide +kernel
theorem u_Ou_isCoordinate : q_okM M_Ou_isCoordinate = true := by decide +kernel
theorem l_Ou_isCoordinate_0 : q_bk B_Ou_isCoordinate 0 = some ([(.iload_n ⟨1, q_l14⟩, 0, 0), (.sipush (-16384), 1, 0), (.if_icmp .lt 14, 4, 18), (.iload_n ⟨1, q_l14⟩, 7, 0), (.sipush 16383, 8, 0), (.if_icmp .gt 7, 11, 18), (.iconst 1, 14, 0), (.goto 4, 15, 19)], 18) := rfl
theorem l_Ou_isCoordinate_18 : q_bk B_Ou_isCoordinate 18 = some ([(.iconst 0, 18, 0)], 19) := rfl
theorem l_Ou_isCoordinate_19 : q_bk B_Ou_isCoordinate 19 = some ([(.ireturn, 19, 0)], 20) := rfl
def b_Ou_addsSimple_0 : List (Instr × Nat × Nat) × Nat := ([(.aload_n ⟨0, q_l04⟩, 0, 0), (.getfield 50, 1, 0), (.istore_n ⟨2, q_l24⟩, 4, 0), (.aload_n ⟨0, q_l04⟩, 5, 0), (.iload_n ⟨1, q_l14⟩, 6, 0), (.invokevirtual 102, 7, 0), (.ifCond .eq 45, 10, 55), (.aload_n ⟨0, q_l04⟩, 13, 0), (.iload_n ⟨2, q_l24⟩, 14, 0), (.invokevirtual 105, 15, 0), (.ifCond .eq 37, 18, 55), (.aload_n ⟨0, q_l04⟩, 21, 0), (.aload_n ⟨0, q_l04⟩, 22, 0), (.getfield 9, 23, 0), (.iload_n ⟨2, q_l24⟩, 26, 0), (.iconst 2, 27, 0), (.bipush 16, 28, 0), (.invokevirtual 108, 30, 0), (.ifCond .eq 22, 33, 55), (.aload_n ⟨0, q_l04⟩, 36, 0), (.aload_n ⟨0, q_l04⟩, 37, 0), (.getfield 15, 38, 0), (.iload_n ⟨2, q_l24⟩, 41, 0), (.iconst 4, 42, 0), (.bipush 32, 43, 0), (.invokevirtual 108, 45, 0), (.ifCond .eq 7, 48, 55), (.iconst 1, 51, 0), (.goto 4, 52, 56)], 55)
def b_Ou_addsSimple_55 : List (Instr × Nat × Nat) × Nat := ([(.iconst 0, 55, 0)], 56)
def b_Ou_addsSimple_56 : List (Instr × Nat × Nat) × Nat := ([(.ireturn, 56, 0)], 57)
def B_Ou_addsSimple : q_B := [(0, b_Ou_addsSimple_0), (55, b_Ou_addsSimple_55), (56, b_Ou_addsSimple_56)]
theorem o_Ou_addsSimple : q_okC M_Ou_addsSimple B_Ou_addsSimple = true := by decide +kernel
theorem u_Ou_addsSimple : q_okM M_Ou_addsSimple = true := by decide +kernel
theorem l_Ou_addsSimple_0 : q_bk B_Ou_addsSimple 0 = some ([(.aload_n ⟨0, q_l04⟩, 0, 0), (.getfield 50, 1, 0), (.istore_n ⟨2, q_l24⟩, 4, 0), (.aload_n ⟨0, q_l04⟩, 5, 0), (.iload_n ⟨1, q_l14⟩, 6, 0), (.invokevirtual 102, 7, 0), (.ifCond .eq 45, 10, 55), (.aload_n ⟨0, q_l04⟩, 13, 0), (.iload_n ⟨2, q_l24⟩, 14, 0), (.invokevirtual 105, 15, 0), (.ifCond .eq 37, 18, 55), (.aload_n ⟨0, q_l04⟩, 21, 0), (.aload_n ⟨0, q_l04⟩, 22, 0), (.getfield 9, 23, 0), (.iload_n ⟨2, q_l24⟩, 26, 0), (.iconst 2, 27, 0), (.bipush 16, 28, 0), (.invokevirtual 108, 30, 0), (.ifCond .eq 22, 33, 55), (.aload_n ⟨0, q_l04⟩, 36, 0), (.aload_n ⟨0, q_l04⟩, 37, 0), (.getfield 15, 38, 0), (.iload_n ⟨2, q_l24⟩, 41, 0), (.iconst 4, 42, 0), (.bipush 32, 43, 0), (.invokevirtual 108, 45, 0), (.ifCond .eq 7, 48, 55), (.iconst 1, 51, 0), (.goto 4, 52, 56)], 55) := rfl
theorem l_Ou_addsSimple_55 : q_bk B_Ou_addsSimple 55 = some ([(.iconst 0, 55, 0)], 56) := rfl
theorem l_Ou_addsSimple_56 : q_bk B_Ou_addsSimple 56 = some ([(.ireturn, 56, 0)], 57) := rfl
def b_Ou_addsContours_0 : List (Instr × Nat × Nat) × Nat := ([(.aload_n ⟨0, q_l04⟩, 0, 0), (.getfield 50, 1, 0), (.istore_n ⟨2, q_l24⟩, 4, 0), (.iconst (-1), 5, 0), (.istore_n ⟨3, q_l34⟩, 6, 0), (.iconst 0, 7, 0), (.istore 4, 8, 0)], 10)
def b_Ou_addsContours_10 : List (Instr × Nat × Nat) × Nat := ([(.iload 4, 10, 0), (.iload_n ⟨1, q_l14⟩, 12, 0), (.if_icmp .ge 81, 13, 94), (.aload_n ⟨0, q_l04⟩, 16, 0), (.getfield 29, 17, 0), (.invokevirtual 78, 20, 0), (.istore 5, 23, 0), (.iload 5, 25, 0), (.iload_n ⟨3, q_l34⟩, 27, 0), (.if_icmp .le 21, 28, 49), (.iload 5, 31, 0), (.sipush 256, 33, 0), (.if_icmp .ge 13, 36, 49), (.iload_n ⟨2, q_l24⟩, 39, 0), (.iload 5, 40, 0), (.iadd, 42, 0), (.sipush 512, 43, 0), (.if_icmp .lt 5, 46, 51)], 49)
def b_Ou_addsContours_49 : List (Instr × Nat × Nat) × Nat := ([(.iconst 0, 49, 0), (.ireturn, 50, 0)], 51)
def b_Ou_addsContours_51 : List (Instr × Nat × Nat) × Nat := ([(.iload_n ⟨3, q_l34⟩, 51, 0), (.iconst 1, 52, 0), (.iadd, 53, 0), (.istore 6, 54, 0)], 56)
def b_Ou_addsContours_56 : List (Instr × Nat × Nat) × Nat := ([(.iload 6, 56, 0), (.iload 5, 58, 0), (.if_icmp .gt 25, 60, 85), (.aload_n ⟨0, q_l04⟩, 63, 0), (.getfield 21, 64, 0), (.iload_n ⟨2, q_l24⟩, 67, 0), (.iload 6, 68, 0), (.iadd, 70, 0), (.aload_n ⟨0, q_l04⟩, 71, 0), (.getfield 53, 72, 0), (.iload 4, 75, 0), (.iadd, 77, 0), (.iastore, 78, 0), (.iinc 6 1, 79, 0), (.goto (-26), 82, 56)], 85)
def b_Ou_addsContours_85 : List (Instr × Nat × Nat) × Nat := ([(.iload 5, 85, 0), (.istore_n ⟨3, q_l34⟩, 87, 0), (.iinc 4 1, 88, 0), (.goto (-81), 91, 10)], 94)
def b_Ou_addsContours_94 : List (Instr × Nat × Nat) × Nat := ([(.aload_n ⟨0, q_l04⟩, 94, 0), (.iload_n ⟨2, q_l24⟩, 95, 0), (.iload_n ⟨3, q_l34⟩, 96, 0), (.iadd, 97, 0), (.iconst 1, 98, 0), (.iadd, 99, 0), (.putfield 50, 100, 0), (.aload_n ⟨0, q_l04⟩, 103, 0), (.dup, 104, 0), (.getfield 53, 105, 0), (.iload_n ⟨1, q_l14⟩, 108, 0), (.iadd, 109, 0), (.putfield 53, 110, 0), (.aload_n ⟨0, q_l04⟩, 113, 0), (.getfield 29, 114, 0), (.aload_n ⟨0, q_l04⟩, 117, 0), (.getfield 29, 118, 0), (.invokevirtual 78, 121, 0), (.invokevirtual 82, 124, 0), (.aload_n ⟨0, q_l04⟩, 127, 0), (.getfield 29, 128, 0), (.getfield 86, 131, 0), (.ifCond .ne 7, 134, 141), (.iconst 1, 137, 0), (.goto 4, 138, 142)], 141)
def b_Ou_addsContours_141 : List (Instr × Nat × Nat) × Nat := ([(.iconst 0, 141, 0)], 142)
def b_Ou_addsContours_142 : List (Instr × Nat × Nat) × Nat := ([(.ireturn, 142, 0)], 143)
def B_Ou_addsContours : q_B := [(0, b_Ou_addsContours_0), (10, b_Ou_addsContours_10), (49, b_Ou_addsContours_49), (51, b_Ou_addsContours_51), (56, b_Ou_addsContours_56), (85, b_Ou_addsContours_85), (94, b_Ou_addsContours_94), (141, b_Ou_addsContours_141), (142, b_Ou_addsContours_142)]
theorem o_Ou_addsContours : q_okC M_Ou_addsContours B_Ou_addsContours = true := by decide +kernel
theorem u_Ou_addsContours : q_okM M_Ou_addsContours = true := by decide +kernel
theorem l_Ou_addsContours_0 : q_bk B_Ou_addsContours 0 = some ([(.aload_n ⟨0, q_l04⟩, 0, 0), (.getfield 50, 1, 0), (.istore_n ⟨2, q_l24⟩, 4, 0), (.iconst (-1), 5, 0), (.istore_n ⟨3, q_l34⟩, 6, 0), (.iconst 0, 7, 0), (.istore 4, 8, 0)], 10) := rfl
theorem l_Ou_addsContours_10 : q_bk B_Ou_addsContours 10 = some ([(.iload 4, 10, 0), (.iload_n ⟨1, q_l14⟩, 12, 0), (.if_icmp .ge 81, 13, 94), (.aload_n ⟨0, q_l04⟩, 16, 0), (.getfield 29, 17, 0), (.invokevirtual 78, 20, 0), (.istore 5, 23, 0), (.iload 5, 25, 0), (.iload_n ⟨3, q_l34⟩, 27, 0), (.if_icmp .le 21, 28, 49), (.iload 5, 31, 0), (.sipush 256, 33, 0), (.if_icmp .ge 13, 36, 49), (.iload_n ⟨2, q_l24⟩, 39, 0), (.iload 5, 40, 0), (.iadd, 42, 0), (.sipush 512, 43, 0), (.if_icmp .lt 5, 46, 51)], 49) := rfl
theorem l_Ou_addsContours_49 : q_bk B_Ou_addsContours 49 = some ([(.iconst 0, 49, 0), (.ireturn, 50, 0)], 51) := rfl
theorem l_Ou_addsContours_51 : q_bk B_Ou_addsContours 51 = some ([(.iload_n ⟨3, q_l34⟩, 51, 0), (.iconst 1, 52, 0), (.iadd, 53, 0), (.istore 6, 54, 0)], 56) := rfl
theorem l_Ou_addsContours_56 : q_bk B_Ou_addsContours 56 = some ([(.iload 6, 56, 0), (.iload 5, 58, 0), (.if_icmp .gt 25, 60, 85), (.aload_n ⟨0, q_l04⟩, 63, 0), (.getfield 21, 64, 0), (.iload_n ⟨2, q_l24⟩, 67, 0), (.iload 6, 68, 0), (.iadd, 70, 0), (.aload_n ⟨0, q_l04⟩, 71, 0), (.getfield 53, 72, 0), (.iload 4, 75, 0), (.iadd, 77, 0), (.iastore, 78, 0), (.iinc 6 1, 79, 0), (.goto (-26), 82, 56)], 85) := rfl
theorem l_Ou_addsContours_85 : q_bk B_Ou_addsContours 85 = some ([(.iload 5, 85, 0), (.istore_n ⟨3, q_l34⟩, 87, 0), (.iinc 4 1, 88, 0), (.goto (-81), 91, 10)], 94) := rfl
theorem l_Ou_addsContours_94 : q_bk B_Ou_addsContours 94 = some ([(.aload_n ⟨0, q_l04⟩, 94, 0), (.iload_n ⟨2, q_l24⟩, 95, 0), (.iload_n ⟨3, q_l34⟩, 96, 0), (.iadd, 97, 0), (.iconst 1, 98, 0), (.iadd, 99, 0), (.putfield 50, 100, 0), (.aload_n ⟨0, q_l04⟩, 103, 0), (.dup, 104, 0), (.getfield 53, 105, 0), (.iload_n ⟨1, q_l14⟩, 108, 0), (.iadd, 109, 0), (.putfield 53, 110, 0), (.aload_n ⟨0, q_l04⟩, 113, 0), (.getfield 29, 114, 0), (.aload_n ⟨0, q_l04⟩, 117, 0), (.getfield 29, 118, 0), (.invokevirtual 78, 121, 0), (.invokevirtual 82, 124, 0), (.aload_n ⟨0, q_l04⟩, 127, 0), (.getfield 29, 128, 0), (.getfield 86, 131, 0), (.ifCond .ne 7, 134, 141), (.iconst 1, 137, 0), (.goto 4, 138, 142)], 141) := rfl
theorem l_Ou_addsContours_141 : q_bk B_Ou_addsContours 141 = some ([(.iconst 0, 141, 0)], 142) := rfl
theorem l_Ou_addsContours_142 : q_bk B_Ou_addsContours 142 = some ([(.ireturn, 142, 0)], 143) := rfl
def b_Ou_readsFlags_0 : List (Instr × Nat × Nat) × Nat := ([(.iconst 0, 0, 0), (.istore_n ⟨2, q_l24⟩, 1, 0), (.iconst 0, 2, 0), (.istore_n ⟨3, q_l34⟩, 3, 0), (.iload_n ⟨1, q_l14⟩, 4, 0), (.istore 4, 5, 0)], 7)
def b_Ou_readsFlags_7 : List (Instr × Nat × Nat) × Nat := ([(.iload 4, 7, 0), (.aload_n ⟨0, q_l04⟩, 9, 0), (.getfield 50, 10, 0), (.if_icmp .ge 54, 13, 67), (.iload_n ⟨3, q_l34⟩, 16, 0), (.ifCond .le 9, 17, 26), (.iinc 3 (-1), 20, 0), (.goto 30, 23, 53)], 26)
def b_Ou_readsFlags_26 : List (Instr × Nat × Nat) × Nat := ([(.aload_n ⟨0, q_l04⟩, 26, 0), (.getfield 29, 27, 0), (.invokevirtual 112, 30, 0), (.istore_n ⟨2, q_l24⟩, 33, 0), (.iload_n ⟨2, q_l24⟩, 34, 0), (.bipush 8, 35, 0), (.iand, 37, 0), (.ifCond .eq 13, 38, 51), (.aload_n ⟨0, q_l04⟩, 41, 0), (.getfield 29, 42, 0), (.invokevirtual 112, 45, 0), (.goto 4, 48, 52)], 51)
def b_Ou_readsFlags_51 : List (Instr × Nat × Nat) × Nat := ([(.iconst 0, 51, 0)], 52)
def b_Ou_readsFlags_52 : List (Instr × Nat × Nat) × Nat := ([(.istore_n ⟨3, q_l34⟩, 52, 0)], 53)
def b_Ou_readsFlags_53 : List (Instr × Nat × Nat) × Nat := ([(.aload_n ⟨0, q_l04⟩, 53, 0), (.getfield 18, 54, 0), (.iload 4, 57, 0), (.iload_n ⟨2, q_l24⟩, 59, 0), (.iastore, 60, 0), (.iinc 4 1, 61, 0), (.goto (-57), 64, 7)], 67)
def b_Ou_readsFlags_67 : List (Instr × Nat × Nat) × Nat := ([(.iload_n ⟨3, q_l34⟩, 67, 0), (.ifCond .ne 17, 68, 85), (.aload_n ⟨0, q_l04⟩, 71, 0), (.getfield 29, 72, 0), (.getfield 86, 75, 0), (.ifCond .ne 7, 78, 85), (.iconst 1, 81, 0), (.goto 4, 82, 86)], 85)
def b_Ou_readsFlags_85 : List (Instr × Nat × Nat) × Nat := ([(.iconst 0, 85, 0)], 86)
def b_Ou_readsFlags_86 : List (Instr × Nat × Nat) × Nat := ([(.ireturn, 86, 0)], 87)
def B_Ou_readsFlags : q_B := [(0, b_Ou_readsFlags_0), (7, b_Ou_readsFlags_7), (26, b_Ou_readsFlags_26), (51, b_Ou_readsFlags_51), (52, b_Ou_readsFlags_52), (53, b_Ou_readsFlags_53), (67, b_Ou_readsFlags_67), (85, b_Ou_readsFlags_85), (86, b_Ou_readsFlags_86)]
theorem o_Ou_readsFlags : q_okC M_Ou_readsFlags B_Ou_readsFlags = true := by decide +kernel
theorem u_Ou_readsFlags : q_okM M_Ou_readsFlags = true := by decide +kernel
theorem l_Ou_readsFlags_0 : q_bk B_Ou_readsFlags 0 = some ([(.iconst 0, 0, 0), (.istore_n ⟨2, q_l24⟩, 1, 0), (.iconst 0, 2, 0), (.istore_n ⟨3, q_l34⟩, 3, 0), (.iload_n ⟨1, q_l14⟩, 4, 0), (.istore 4, 5, 0)], 7) := rfl
theorem l_Ou_readsFlags_7 : q_bk B_Ou_readsFlags 7 = some ([(.iload 4, 7, 0), (.aload_n ⟨0, q_l04⟩, 9, 0), (.getfield 50, 10, 0), (.if_icmp .ge 54, 13, 67), (.iload_n ⟨3, q_l34⟩, 16, 0), (.ifCond .le 9, 17, 26), (.iinc 3 (-1), 20, 0), (.goto 30, 23, 53)], 26) := rfl
theorem l_Ou_readsFlags_26 : q_bk B_Ou_readsFlags 26 = some ([(.aload_n ⟨0, q_l04⟩, 26, 0), (.getfield 29, 27, 0), (.invokevirtual 112, 30, 0), (.istore_n ⟨2, q_l24⟩, 33, 0), (.iload_n ⟨2, q_l24⟩, 34, 0), (.bipush 8, 35, 0), (.iand, 37, 0), (.ifCond .eq 13, 38, 51), (.aload_n ⟨0, q_l04⟩, 41, 0), (.getfield 29, 42, 0), (.invokevirtual 112, 45, 0), (.goto 4, 48, 52)], 51) := rfl
theorem l_Ou_readsFlags_51 : q_bk B_Ou_readsFlags 51 = some ([(.iconst 0, 51, 0)], 52) := rfl
theorem l_Ou_readsFlags_52 : q_bk B_Ou_readsFlags 52 = some ([(.istore_n ⟨3, q_l34⟩, 52, 0)], 53) := rfl
theorem l_Ou_readsFlags_53 : q_bk B_Ou_readsFlags 53 = some ([(.aload_n ⟨0, q_l04⟩, 53, 0), (.getfield 18, 54, 0), (.iload 4, 57, 0), (.iload_n ⟨2, q_l24⟩, 59, 0), (.iastore, 60, 0), (.iinc 4 1, 61, 0), (.goto (-57), 64, 7)], 67) := rfl
theorem l_Ou_readsFlags_67 : q_bk B_Ou_readsFlags 67 = some ([(.iload_n ⟨3, q_l34⟩, 67, 0), (.ifCond .ne 17, 68, 85), (.aload_n ⟨0, q_l04⟩, 71, 0), (.getfield 29, 72, 0), (.getfield 86, 75, 0), (.ifCond .ne 7, 78, 85), (.iconst 1, 81, 0), (.goto 4, 82, 86)], 85) := rfl
theorem l_Ou_readsFlags_85 : q_bk B_Ou_readsFlags 85 = some ([(.iconst 0, 85, 0)], 86) := rfl
theorem l_Ou_readsFlags_86 : q_bk B_Ou_readsFlags 86 = some ([(.ireturn, 86, 0)], 87) := rfl
def b_Ou_readsAxis_0 : List (Instr × Nat × Nat) × Nat := ([(.iconst 0, 0, 0), (.istore 5, 1, 0), (.iload_n ⟨2, q_l24⟩, 3, 0), (.istore 6, 4, 0)], 6)
def b_Ou_readsAxis_6 : List (Instr × Nat × Nat) × Nat := ([(.iload 6, 6, 0), (.aload_n ⟨0, q_l04⟩, 8, 0), (.getfield 50, 9, 0), (.if_icmp .ge 106, 12, 118), (.aload_n ⟨0, q_l04⟩, 15, 0), (.getfield 18, 16, 0), (.iload 6, 19, 0), (.iaload, 21, 0), (.iload 4, 22, 0), (.iand, 24, 0), (.ifCond .eq 7, 25, 32), (.iconst 1, 28, 0), (.goto 4, 29, 33)], 32)
def b_Ou_readsAxis_32 : List (Instr × Nat × Nat) × Nat := ([(.iconst 0, 32, 0)], 33)
def b_Ou_readsAxis_33 : List (Instr × Nat × Nat) × Nat := ([(.istore 7, 33, 0), (.aload_n ⟨0, q_l04⟩, 35, 0), (.getfield 18, 36, 0), (.iload 6, 39, 0), (.iaload, 41, 0), (.iload_n ⟨3, q_l34⟩, 42, 0), (.iand, 43, 0), (.ifCond .eq 33, 44, 77), (.aload_n ⟨0, q_l04⟩, 47, 0), (.getfield 29, 48, 0), (.invokevirtual 112, 51, 0), (.istore 8, 54, 0), (.iload 5, 56, 0), (.iload 7, 58, 0), (.ifCond .eq 8, 60, 68), (.iload 8, 63, 0), (.goto 6, 65, 71)], 68)
def b_Ou_readsAxis_68 : List (Instr × Nat × Nat) × Nat := ([(.iload 8, 68, 0), (.ineg, 70, 0)], 71)
def b_Ou_readsAxis_71 : List (Instr × Nat × Nat) × Nat := ([(.iadd, 71, 0), (.istore 5, 72, 0), (.goto 21, 74, 95)], 77)
def b_Ou_readsAxis_77 : List (Instr × Nat × Nat) × Nat := ([(.iload 7, 77, 0), (.ifCond .ne 16, 79, 95), (.iload 5, 82, 0), (.aload_n ⟨0, q_l04⟩, 84, 0), (.getfield 29, 85, 0), (.invokevirtual 78, 88, 0), (.i2s, 91, 0), (.iadd, 92, 0), (.istore 5, 93, 0)], 95)
def b_Ou_readsAxis_95 : List (Instr × Nat × Nat) × Nat := ([(.aload_n ⟨0, q_l04⟩, 95, 0), (.iload 5, 96, 0), (.invokevirtual 115, 98, 0), (.ifCond .ne 5, 101, 106), (.iconst 0, 104, 0), (.ireturn, 105, 0)], 106)
def b_Ou_readsAxis_106 : List (Instr × Nat × Nat) × Nat := ([(.aload_n ⟨1, q_l14⟩, 106, 0), (.iload 6, 107, 0), (.iload 5, 109, 0), (.iastore, 111, 0), (.iinc 6 1, 112, 0), (.goto (-109), 115, 6)], 118)
def b_Ou_readsAxis_118 : List (Instr × Nat × Nat) × Nat := ([(.aload_n ⟨0, q_l04⟩, 118, 0), (.getfield 29, 119, 0), (.getfield 86, 122, 0), (.ifCond .ne 7, 125, 132), (.iconst 1, 128, 0), (.goto 4, 129, 133)], 132)
def b_Ou_readsAxis_132 : List (Instr × Nat × Nat) × Nat := ([(.iconst 0, 132, 0)], 133)
def b_Ou_readsAxis_133 : List (Instr × Nat × Nat) × Nat := ([(.ireturn, 133, 0)], 134)
def B_Ou_readsAxis : q_B := [(0, b_Ou_readsAxis_0), (6, b_Ou_readsAxis_6), (32, b_Ou_readsAxis_32), (33, b_Ou_readsAxis_33), (68, b_Ou_readsAxis_68), (71, b_Ou_readsAxis_71), (77, b_Ou_readsAxis_77), (95, b_Ou_readsAxis_95), (106, b_Ou_readsAxis_106), (118, b_Ou_readsAxis_118), (132, b_Ou_readsAxis_132), (133, b_Ou_readsAxis_133)]
theorem o_Ou_readsAxis : q_okC M_Ou_readsAxis B_Ou_readsAxis = true := by decide +kernel
theorem u_Ou_readsAxis : q_okM M_Ou_readsAxis = true := by decide +kernel
theorem l_Ou_readsAxis_0 : q_bk B_Ou_readsAxis 0 = some ([(.iconst 0, 0, 0), (.istore 5, 1, 0), (.iload_n ⟨2, q_l24⟩, 3, 0), (.istore 6, 4, 0)], 6) := rfl
theorem l_Ou_readsAxis_6 : q_bk B_Ou_readsAxis 6 = some ([(.iload 6, 6, 0), (.aload_n ⟨0, q_l04⟩, 8, 0), (.getfield 50, 9, 0), (.if_icmp .ge 106, 12, 118), (.aload_n ⟨0, q_l04⟩, 15, 0), (.getfield 18, 16, 0), (.iload 6, 19, 0), (.iaload, 21, 0), (.iload 4, 22, 0), (.iand, 24, 0), (.ifCond .eq 7, 25, 32), (.iconst 1, 28, 0), (.goto 4, 29, 33)], 32) := rfl
theorem l_Ou_readsAxis_32 : q_bk B_Ou_readsAxis 32 = some ([(.iconst 0, 32, 0)], 33) := rfl
theorem l_Ou_readsAxis_33 : q_bk B_Ou_readsAxis 33 = some ([(.istore 7, 33, 0), (.aload_n ⟨0, q_l04⟩, 35, 0), (.getfield 18, 36, 0), (.iload 6, 39, 0), (.iaload, 41, 0), (.iload_n ⟨3, q_l34⟩, 42, 0), (.iand, 43, 0), (.ifCond .eq 33, 44, 77), (.aload_n ⟨0, q_l04⟩, 47, 0), (.getfield 29, 48, 0), (.invokevirtual 112, 51, 0), (.istore 8, 54, 0), (.iload 5, 56, 0), (.iload 7, 58, 0), (.ifCond .eq 8, 60, 68), (.iload 8, 63, 0), (.goto 6, 65, 71)], 68) := rfl
theorem l_Ou_readsAxis_68 : q_bk B_Ou_readsAxis 68 = some ([(.iload 8, 68, 0), (.ineg, 70, 0)], 71) := rfl
theorem l_Ou_readsAxis_71 : q_bk B_Ou_readsAxis 71 = some ([(.iadd, 71, 0), (.istore 5, 72, 0), (.goto 21, 74, 95)], 77) := rfl
theorem l_Ou_readsAxis_77 : q_bk B_Ou_readsAxis 77 = some ([(.iload 7, 77, 0), (.ifCond .ne 16, 79, 95), (.iload 5, 82, 0), (.aload_n ⟨0, q_l04⟩, 84, 0), (.getfield 29, 85, 0), (.invokevirtual 78, 88, 0), (.i2s, 91, 0), (.iadd, 92, 0), (.istore 5, 93, 0)], 95) := rfl
theorem l_Ou_readsAxis_95 : q_bk B_Ou_readsAxis 95 = some ([(.aload_n ⟨0, q_l04⟩, 95, 0), (.iload 5, 96, 0), (.invokevirtual 115, 98, 0), (.ifCond .ne 5, 101, 106), (.iconst 0, 104, 0), (.ireturn, 105, 0)], 106) := rfl
theorem l_Ou_readsAxis_106 : q_bk B_Ou_readsAxis 106 = some ([(.aload_n ⟨1, q_l14⟩, 106, 0), (.iload 6, 107, 0), (.iload 5, 109, 0), (.iastore, 111, 0), (.iinc 6 1, 112, 0), (.goto (-109), 115, 6)], 118) := rfl
theorem l_Ou_readsAxis_118 : q_bk B_Ou_readsAxis 118 = some ([(.aload_n ⟨0, q_l04⟩, 118, 0), (.getfield 29, 119, 0), (.getfield 86, 122, 0), (.ifCond .ne 7, 125, 132), (.iconst 1, 128, 0), (.goto 4, 129, 133)], 132) := rfl
theorem l_Ou_readsAxis_132 : q_bk B_Ou_readsAxis 132 = some ([(.iconst 0, 132, 0)], 133) := rfl
theorem l_Ou_readsAxis_133 : q_bk B_Ou_readsAxis 133 = some ([(.ireturn, 133, 0)], 134) := rfl
def b_Ou_least_0 : List (Instr × Nat × Nat) × Nat := ([(.aload_n ⟨0, q_l04⟩, 0, 0), (.getfield 50, 1, 0), (.ifCond .ne 5, 4, 9), (.iconst 0, 7, 0), (.ireturn, 8, 0)], 9)
def b_Ou_least_9 : List (Instr × Nat × Nat) × Nat := ([(.aload_n ⟨1, q_l14⟩, 9, 0), (.iconst 0, 10, 0), (.iaload, 11, 0), (.istore_n ⟨2, q_l24⟩, 12, 0), (.iconst 1, 13, 0), (.istore_n ⟨3, q_l34⟩, 14, 0)], 15)
def b_Ou_least_15 : List (Instr × Nat × Nat) × Nat := ([(.iload_n ⟨3, q_l34⟩, 15, 0), (.aload_n ⟨0, q_l04⟩, 16, 0), (.getfield 50, 17, 0), (.if_icmp .ge 17, 20, 37), (.iload_n ⟨2, q_l24⟩, 23, 0), (.aload_n ⟨1, q_l14⟩, 24, 0), (.iload_n ⟨3, q_l34⟩, 25, 0), (.iaload, 26, 0), (.invokestatic 145, 27, 0), (.istore_n ⟨2, q_l24⟩, 30, 0), (.iinc 3 1, 31, 0), (.goto (-19), 34, 15)], 37)
def b_Ou_least_37 : List (Instr × Nat × Nat) × Nat := ([(.iload_n ⟨2, q_l24⟩, 37, 0), (.ireturn, 38, 0)], 39)
def B_Ou_least : q_B := [(0, b_Ou_least_0), (9, b_Ou_least_9), (15, b_Ou_least_15), (37, b_Ou_least_37)]
theorem o_Ou_least : q_okC M_Ou_least B_Ou_least = true := by decide +kernel
theorem u_Ou_least : q_okM M_Ou_least = true := by decide +kernel
theorem l_Ou_least_0 : q_bk B_Ou_least 0 = some ([(.aload_n ⟨0, q_l04⟩, 0, 0), (.getfield 50, 1, 0), (.ifCond .ne 5, 4, 9), (.iconst 0, 7, 0), (.ireturn, 8, 0)], 9) := rfl
theorem l_Ou_least_9 : q_bk B_Ou_least 9 = some ([(.aload_n ⟨1, q_l14⟩, 9, 0), (.iconst 0, 10, 0), (.iaload, 11, 0), (.istore_n ⟨2, q_l24⟩, 12, 0), (.iconst 1, 13, 0), (.istore_n ⟨3, q_l34⟩, 14, 0)], 15) := rfl
theorem l_Ou_least_15 : q_bk B_Ou_least 15 = some ([(.iload_n ⟨3, q_l34⟩, 15, 0), (.aload_n ⟨0, q_l04⟩, 16, 0), (.getfield 50, 17, 0), (.if_icmp .ge 17, 20, 37), (.iload_n ⟨2, q_l24⟩, 23, 0), (.aload_n ⟨1, q_l14⟩, 24, 0), (.iload_n ⟨3, q_l34⟩, 25, 0), (.iaload, 26, 0), (.invokestatic 145, 27, 0), (.istore_n ⟨2, q_l24⟩, 30, 0), (.iinc 3 1, 31, 0), (.goto (-19), 34, 15)], 37) := rfl
theorem l_Ou_least_37 : q_bk B_Ou_least 37 = some ([(.iload_n ⟨2, q_l24⟩, 37, 0), (.ireturn, 38, 0)], 39) := rfl
def b_Ou_greatest_0 : List (Instr × Nat × Nat) × Nat := ([(.aload_n ⟨0, q_l04⟩, 0, 0), (.getfield 50, 1, 0), (.ifCond .ne 5, 4, 9), (.iconst 0, 7, 0), (.ireturn, 8, 0)], 9)
def b_Ou_greatest_9 : List (Instr × Nat × Nat) × Nat := ([(.aload_n ⟨1, q_l14⟩, 9, 0), (.iconst 0, 10, 0), (.iaload, 11, 0), (.istore_n ⟨2, q_l24⟩, 12, 0), (.iconst 1, 13, 0), (.istore_n ⟨3, q_l34⟩, 14, 0)], 15)
def b_Ou_greatest_15 : List (Instr × Nat × Nat) × Nat := ([(.iload_n ⟨3, q_l34⟩, 15, 0), (.aload_n ⟨0, q_l04⟩, 16, 0), (.getfield 50, 17, 0), (.if_icmp .ge 17, 20, 37), (.iload_n ⟨2, q_l24⟩, 23, 0), (.aload_n ⟨1, q_l14⟩, 24, 0), (.iload_n ⟨3, q_l34⟩, 25, 0), (.iaload, 26, 0), (.invokestatic 150, 27, 0), (.istore_n ⟨2, q_l24⟩, 30, 0), (.iinc 3 1, 31, 0), (.goto (-19), 34, 15)], 37)
def b_Ou_greatest_37 : List (Instr × Nat × Nat) × Nat := ([(.iload_n ⟨2, q_l24⟩, 37, 0), (.ireturn, 38, 0)], 39)
def B_Ou_greatest : q_B := [(0, b_Ou_greatest_0), (9, b_Ou_greatest_9), (15, b_Ou_greatest_15), (37, b_Ou_greatest_37)]
theorem o_Ou_greatest : q_okC M_Ou_greatest B_Ou_greatest = true := by decide +kernel
theorem u_Ou_greatest : q_okM M_Ou_greatest = true := by decide +kernel
theorem l_Ou_greatest_0 : q_bk B_Ou_greatest 0 = some ([(.aload_n ⟨0, q_l04⟩, 0, 0), (.getfield 50, 1, 0), (.ifCond .ne 5, 4, 9), (.iconst 0, 7, 0), (.ireturn, 8, 0)], 9) := rfl
theorem l_Ou_greatest_9 : q_bk B_Ou_greatest 9 = some ([(.aload_n ⟨1, q_l14⟩, 9, 0), (.iconst 0, 10, 0), (.iaload, 11, 0), (.istore_n ⟨2, q_l24⟩, 12, 0), (.iconst 1, 13, 0), (.istore_n ⟨3, q_l34⟩, 14, 0)], 15) := rfl
theorem l_Ou_greatest_15 : q_bk B_Ou_greatest 15 = some ([(.iload_n ⟨3, q_l34⟩, 15, 0), (.aload_n ⟨0, q_l04⟩, 16, 0), (.getfield 50, 17, 0), (.if_icmp .ge 17, 20, 37), (.iload_n ⟨2, q_l24⟩, 23, 0), (.aload_n ⟨1, q_l14⟩, 24, 0), (.iload_n ⟨3, q_l34⟩, 25, 0), (.iaload, 26, 0), (.invokestatic 150, 27, 0), (.istore_n ⟨2, q_l24⟩, 30, 0), (.iinc 3 1, 31, 0), (.goto (-19), 34, 15)], 37) := rfl
theorem l_Ou_greatest_37 : q_bk B_Ou_greatest 37 = some ([(.iload_n ⟨2, q_l24⟩, 37, 0), (.ireturn, 38, 0)], 39) := rfl
end
section
def b_FO_init_0 : List (Instr × Nat × Nat) × Nat := ([(.aload_n ⟨0, q_l04⟩, 0, 0), (.invokespecial 3, 1, 0), (.aload_n ⟨0, q_l04⟩, 4, 0), (.new 9, 5, 0), (.dup, 8, 0), (.invokespecial 11, 9, 0), (.putfield 12, 12, 0), (.aload_n ⟨0, q_l04⟩, 15, 0), (.new 16, 16, 0), (.dup, 19, 0), (.invokespecial 18, 20, 0), (.putfield 19, 23, 0), (.aload_n ⟨0, q_l04⟩, 26, 0), (.new 16, 27, 0), (.dup, 30, 0), (.invokespecial 18, 31, 0), (.putfield 23, 34, 0), (.aload_n ⟨0, q_l04⟩, 37, 0), (.new 26, 38, 0), (.dup, 41, 0), (.aload_n ⟨0, q_l04⟩, 42, 0), (.getfield 12, 43, 0), (.invokespecial 28, 46, 0), (.putfield 31, 49, 0), (.aload_n ⟨0, q_l04⟩, 52, 0), (.iconst 0, 53, 0), (.putfield 35, 54, 0), (.aload_n ⟨0, q_l04⟩, 57, 0), (.iconst (-1), 58, 0), (.putfield 39, 59, 0), (.return_, 62, 0)], 63)
def B_FO_init : q_B := [(0, b_FO_init_0)]
theorem o_FO_init : q_okC M_FO_init B_FO_init = true := by decide +kernel
theorem u_FO_init : q_okM M_FO_init = true := by decide +kernel
theorem l_FO_init_0 : q_bk B_FO_init 0 = some ([(.aload_n ⟨0, q_l04⟩, 0, 0), (.invokespecial 3, 1, 0), (.aload_n ⟨0, q_l04⟩, 4, 0), (.new 9, 5, 0), (.dup, 8, 0), (.invokespecial 11, 9, 0), (.putfield 12, 12, 0), (.aload_n ⟨0, q_l04⟩, 15, 0), (.new 16, 16, 0), (.dup, 19, 0), (.invokespecial 18, 20, 0), (.putfield 19, 23, 0), (.aload_n ⟨0, q_l04⟩, 26, 0), (.new 16, 27, 0), (.dup, 30, 0), (.invokespecial 18, 31, 0), (.putfield 23, 34, 0), (.aload_n ⟨0, q_l04⟩, 37, 0), (.new 26, 38, 0), (.dup, 41, 0), (.aload_n ⟨0, q_l04⟩, 42, 0), (.getfield 12, 43, 0), (.invokespecial 28, 46, 0), (.putfield 31, 49, 0), (.aload_n ⟨0, q_l04⟩, 52, 0), (.iconst 0, 53, 0), (.putfield 35, 54, 0), (.aload_n ⟨0, q_l04⟩, 57, 0), (.iconst (-1), 58, 0), (.putfield 39, 59, 0), (.return_, 62, 0)], 63) := rfl
def b_FO_feed_0 : List (Instr × Nat × Nat) × Nat := ([(.aload_n ⟨0, q_l04⟩, 0, 0), (.getfield 12, 1, 0), (.getfield 43, 4, 0), (.sipush 16364, 7, 0), (.if_icmp .le 5, 10, 15), (.iconst (-1), 13, 0), (.ireturn, 14, 0)], 15)
def b_FO_feed_15 : List (Instr × Nat × Nat) × Nat := ([(.aload_n ⟨0, q_l04⟩, 15, 0), (.getfield 12, 16, 0), (.aload_n ⟨0, q_l04⟩, 19, 0), (.getfield 12, 20, 0), (.getfield 43, 23, 0), (.bipush 20, 26, 0), (.iadd, 28, 0), (.invokevirtual 46, 29, 0), (.aload_n ⟨0, q_l04⟩, 32, 0), (.getfield 12, 33, 0), (.iload_n ⟨1, q_l14⟩, 36, 0), (.invokevirtual 50, 37, 0), (.aload_n ⟨0, q_l04⟩, 40, 0), (.getfield 12, 41, 0), (.iload_n ⟨2, q_l24⟩, 44, 0), (.invokevirtual 50, 45, 0), (.aload_n ⟨0, q_l04⟩, 48, 0), (.getfield 12, 49, 0), (.iload_n ⟨3, q_l34⟩, 52, 0), (.invokevirtual 50, 53, 0), (.aload_n ⟨0, q_l04⟩, 56, 0), (.getfield 12, 57, 0), (.iload 4, 60, 0), (.invokevirtual 50, 62, 0), (.aload_n ⟨0, q_l04⟩, 65, 0), (.getfield 12, 66, 0), (.iload 5, 69, 0), (.invokevirtual 50, 71, 0), (.aload_n ⟨0, q_l04⟩, 74, 0), (.getfield 12, 75, 0), (.getfield 43, 78, 0), (.ireturn, 81, 0)], 82)
def B_FO_feed : q_B := [(0, b_FO_feed_0), (15, b_FO_feed_15)]
theorem o_FO_feed : q_okC M_FO_feed B_FO_feed = true := by decide +kernel
theorem u_FO_feed : q_okM M_FO_feed = true := by decide +kernel
theorem l_FO_feed_0 : q_bk B_FO_feed 0 = some ([(.aload_n ⟨0, q_l04⟩, 0, 0), (.getfield 12, 1, 0), (.getfield 43, 4, 0), (.sipush 16364, 7, 0), (.if_icmp .le 5, 10, 15), (.iconst (-1), 13, 0), (.ireturn, 14, 0)], 15) := rfl
theorem l_FO_feed_15 : q_bk B_FO_feed 15 = some ([(.aload_n ⟨0, q_l04⟩, 15, 0), (.getfield 12, 16, 0), (.aload_n ⟨0, q_l04⟩, 19, 0), (.getfield 12, 20, 0), (.getfield 43, 23, 0), (.bipush 20, 26, 0), (.iadd, 28, 0), (.invokevirtual 46, 29, 0), (.aload_n ⟨0, q_l04⟩, 32, 0), (.getfield 12, 33, 0), (.iload_n ⟨1, q_l14⟩, 36, 0), (.invokevirtual 50, 37, 0), (.aload_n ⟨0, q_l04⟩, 40, 0), (.getfield 12, 41, 0), (.iload_n ⟨2, q_l24⟩, 44, 0), (.invokevirtual 50, 45, 0), (.aload_n ⟨0, q_l04⟩, 48, 0), (.getfield 12, 49, 0), (.iload_n ⟨3, q_l34⟩, 52, 0), (.invokevirtual 50, 53, 0), (.aload_n ⟨0, q_l04⟩, 56, 0), (.getfield 12, 57, 0), (.iload 4, 60, 0), (.invokevirtual 50, 62, 0), (.aload_n ⟨0, q_l04⟩, 65, 0), (.getfield 12, 66, 0), (.iload 5, 69, 0), (.invokevirtual 50, 71, 0), (.aload_n ⟨0, q_l04⟩, 74, 0), (.getfield 12, 75, 0), (.getfield 43, 78, 0), (.ireturn, 81, 0)], 82) := rfl
def b_FO_at_0 : List (Instr × Nat × Nat) × Nat := ([(.iload_n ⟨1, q_l14⟩, 0, 0), (.ifCond .lt 25, 1, 26), (.iload_n ⟨1, q_l14⟩, 4, 0), (.aload_n ⟨0, q_l04⟩, 5, 0), (.getfield 12, 6, 0), (.getfield 43, 9, 0), (.if_icmp .ge 14, 12, 26), (.aload_n ⟨0, q_l04⟩, 15, 0), (.getfield 12, 16, 0), (.iload_n ⟨1, q_l14⟩, 19, 0), (.invokevirtual 65, 20, 0), (.goto 4, 23, 27)], 26)
def b_FO_at_26 : List (Instr × Nat × Nat) × Nat := ([(.iconst (-1), 26, 0)], 27)
def b_FO_at_27 : List (Instr × Nat × Nat) × Nat := ([(.ireturn, 27, 0)], 28)
def B_FO_at : q_B := [(0, b_FO_at_0), (26, b_FO_at_26), (27, b_FO_at_27)]
theorem o_FO_at : q_okC M_FO_at B_FO_at = true := by decide +kernel
theorem u_FO_at : q_okM M_FO_at = true := by decide +kernel
theorem l_FO_at_0 : q_bk B_FO_at 0 = some ([(.iload_n ⟨1, q_l14⟩, 0, 0), (.ifCond .lt 25, 1, 26), (.iload_n ⟨1, q_l14⟩, 4, 0), (.aload_n ⟨0, q_l04⟩, 5, 0), (.getfield 12, 6, 0), (.getfield 43, 9, 0), (.if_icmp .ge 14, 12, 26), (.aload_n ⟨0, q_l04⟩, 15, 0), (.getfield 12, 16, 0), (.iload_n ⟨1, q_l14⟩, 19, 0), (.invokevirtual 65, 20, 0), (.goto 4, 23, 27)], 26) := rfl
theorem l_FO_at_26 : q_bk B_FO_at 26 = some ([(.iconst (-1), 26, 0)], 27) := rfl
theorem l_FO_at_27 : q_bk B_FO_at 27 = some ([(.ireturn, 27, 0)], 28) := rfl
def b_FO_load_0 : List (Instr × Nat × Nat) × Nat := ([(.aload_n ⟨0, q_l04⟩, 0, 0), (.iconst (-1), 1, 0), (.putfield 39, 2, 0), (.aload_n ⟨0, q_l04⟩, 5, 0), (.getfield 23, 6, 0), (.aload_n ⟨0, q_l04⟩, 9, 0), (.getfield 12, 10, 0), (.invokevirtual 75, 13, 0), (.aload_n ⟨0, q_l04⟩, 16, 0), (.getfield 23, 17, 0), (.iload_n ⟨1, q_l14⟩, 20, 0), (.invokevirtual 78, 21, 0), (.istore_n ⟨2, q_l24⟩, 24, 0), (.iload_n ⟨2, q_l24⟩, 25, 0), (.ifCond .eq 5, 26, 31), (.iload_n ⟨2, q_l24⟩, 29, 0), (.ireturn, 30, 0)], 31)
def b_FO_load_31 : List (Instr × Nat × Nat) × Nat := ([(.aload_n ⟨0, q_l04⟩, 31, 0), (.getfield 31, 32, 0), (.aload_n ⟨0, q_l04⟩, 35, 0), (.getfield 23, 36, 0), (.invokevirtual 82, 39, 0), (.ifCond .ne 6, 42, 48), (.bipush (-5), 45, 0), (.ireturn, 47, 0)], 48)
def b_FO_load_48 : List (Instr × Nat × Nat) × Nat := ([(.aload_n ⟨0, q_l04⟩, 48, 0), (.getfield 19, 49, 0), (.astore_n ⟨3, q_l34⟩, 52, 0), (.aload_n ⟨0, q_l04⟩, 53, 0), (.aload_n ⟨0, q_l04⟩, 54, 0), (.getfield 23, 55, 0), (.putfield 19, 58, 0), (.aload_n ⟨0, q_l04⟩, 61, 0), (.aload_n ⟨3, q_l34⟩, 62, 0), (.putfield 23, 63, 0), (.aload_n ⟨0, q_l04⟩, 66, 0), (.iconst 1, 67, 0), (.putfield 35, 68, 0), (.aload_n ⟨0, q_l04⟩, 71, 0), (.getfield 19, 72, 0), (.getfield 86, 75, 0), (.ireturn, 78, 0)], 79)
def B_FO_load : q_B := [(0, b_FO_load_0), (31, b_FO_load_31), (48, b_FO_load_48)]
theorem o_FO_load : q_okC M_FO_load B_FO_load = true := by decide +kernel
theorem u_FO_load : q_okM M_FO_load = true := by decide +kernel
theorem l_FO_load_0 : q_bk B_FO_load 0 = some ([(.aload_n ⟨0, q_l04⟩, 0, 0), (.iconst (-1), 1, 0), (.putfield 39, 2, 0), (.aload_n ⟨0, q_l04⟩, 5, 0), (.getfield 23, 6, 0), (.aload_n ⟨0, q_l04⟩, 9, 0), (.getfield 12, 10, 0), (.invokevirtual 75, 13, 0), (.aload_n ⟨0, q_l04⟩, 16, 0), (.getfield 23, 17, 0), (.iload_n ⟨1, q_l14⟩, 20, 0), (.invokevirtual 78, 21, 0), (.istore_n ⟨2, q_l24⟩, 24, 0), (.iload_n ⟨2, q_l24⟩, 25, 0), (.ifCond .eq 5, 26, 31), (.iload_n ⟨2, q_l24⟩, 29, 0), (.ireturn, 30, 0)], 31) := rfl
theorem l_FO_load_31 : q_bk B_FO_load 31 = some ([(.aload_n ⟨0, q_l04⟩, 31, 0), (.getfield 31, 32, 0), (.aload_n ⟨0, q_l04⟩, 35, 0), (.getfield 23, 36, 0), (.invokevirtual 82, 39, 0), (.ifCond .ne 6, 42, 48), (.bipush (-5), 45, 0), (.ireturn, 47, 0)], 48) := rfl
theorem l_FO_load_48 : q_bk B_FO_load 48 = some ([(.aload_n ⟨0, q_l04⟩, 48, 0), (.getfield 19, 49, 0), (.astore_n ⟨3, q_l34⟩, 52, 0), (.aload_n ⟨0, q_l04⟩, 53, 0), (.aload_n ⟨0, q_l04⟩, 54, 0), (.getfield 23, 55, 0), (.putfield 19, 58, 0), (.aload_n ⟨0, q_l04⟩, 61, 0), (.aload_n ⟨3, q_l34⟩, 62, 0), (.putfield 23, 63, 0), (.aload_n ⟨0, q_l04⟩, 66, 0), (.iconst 1, 67, 0), (.putfield 35, 68, 0), (.aload_n ⟨0, q_l04⟩, 71, 0), (.getfield 19, 72, 0), (.getfield 86, 75, 0), (.ireturn, 78, 0)], 79) := rfl
def b_FO_isGlyph_0 : List (Instr × Nat × Nat) × Nat := ([(.iload_n ⟨1, q_l14⟩, 0, 0), (.ifCond .lt 18, 1, 19), (.iload_n ⟨1, q_l14⟩, 4, 0), (.aload_n ⟨0, q_l04⟩, 5, 0), (.getfield 19, 6, 0), (.getfield 86, 9, 0), (.if_icmp .ge 7, 12, 19), (.iconst 1, 15, 0), (.goto 4, 16, 20)], 19)
def b_FO_isGlyph_19 : List (Instr × Nat × Nat) × Nat := ([(.iconst 0, 19, 0)], 20)
def b_FO_isGlyph_20 : List (Instr × Nat × Nat) × Nat := ([(.ireturn, 20, 0)], 21)
def B_FO_isGlyph : q_B := [(0, b_FO_isGlyph_0), (19, b_FO_isGlyph_19), (20, b_FO_isGlyph_20)]
theorem o_FO_isGlyph : q_okC M_FO_isGlyph B_FO_isGlyph = true := by decide +kernel
theorem u_FO_isGlyph : q_okM M_FO_isGlyph = true := by decide +kernel
theorem l_FO_isGlyph_0 : q_bk B_FO_isGlyph 0 = some ([(.iload_n ⟨1, q_l14⟩, 0, 0), (.ifCond .lt 18, 1, 19), (.iload_n ⟨1, q_l14⟩, 4, 0), (.aload_n ⟨0, q_l04⟩, 5, 0), (.getfield 19, 6, 0), (.getfield 86, 9, 0), (.if_icmp .ge 7, 12, 19), (.iconst 1, 15, 0), (.goto 4, 16, 20)], 19) := rfl
theorem l_FO_isGlyph_19 : q_bk B_FO_isGlyph 19 = some ([(.iconst 0, 19, 0)], 20) := rfl
theorem l_FO_isGlyph_20 : q_bk B_FO_isGlyph 20 = some ([(.ireturn, 20, 0)], 21) := rfl
def b_FO_show_0 : List (Instr × Nat × Nat) × Nat := ([(.aload_n ⟨0, q_l04⟩, 0, 0), (.getfield 39, 1, 0), (.iload_n ⟨1, q_l14⟩, 4, 0), (.if_icmp .eq 21, 5, 26), (.aload_n ⟨0, q_l04⟩, 8, 0), (.getfield 31, 9, 0), (.aload_n ⟨0, q_l04⟩, 12, 0), (.getfield 19, 13, 0), (.iload_n ⟨1, q_l14⟩, 16, 0), (.invokevirtual 166, 17, 0), (.pop, 20, 0), (.aload_n ⟨0, q_l04⟩, 21, 0), (.iload_n ⟨1, q_l14⟩, 22, 0), (.putfield 39, 23, 0)], 26)
def b_FO_show_26 : List (Instr × Nat × Nat) × Nat := ([(.return_, 26, 0)], 27)
def B_FO_show : q_B := [(0, b_FO_show_0), (26, b_FO_show_26)]
theorem o_FO_show : q_okC M_FO_show B_FO_show = true := by decide +kernel
theorem u_FO_show : q_okM M_FO_show = true := by decide +kernel
theorem l_FO_show_0 : q_bk B_FO_show 0 = some ([(.aload_n ⟨0, q_l04⟩, 0, 0), (.getfield 39, 1, 0), (.iload_n ⟨1, q_l14⟩, 4, 0), (.if_icmp .eq 21, 5, 26), (.aload_n ⟨0, q_l04⟩, 8, 0), (.getfield 31, 9, 0), (.aload_n ⟨0, q_l04⟩, 12, 0), (.getfield 19, 13, 0), (.iload_n ⟨1, q_l14⟩, 16, 0), (.invokevirtual 166, 17, 0), (.pop, 20, 0), (.aload_n ⟨0, q_l04⟩, 21, 0), (.iload_n ⟨1, q_l14⟩, 22, 0), (.putfield 39, 23, 0)], 26) := rfl
theorem l_FO_show_26 : q_bk B_FO_show 26 = some ([(.return_, 26, 0)], 27) := rfl
end
section
def b_Mo_init_0 : List (Instr × Nat × Nat) × Nat := ([(.aload_n ⟨0, q_l04⟩, 0, 0), (.invokespecial 1, 1, 0), (.aload_n ⟨0, q_l04⟩, 4, 0), (.sipush 16384, 5, 0), (.newarray .int, 8, 0), (.putfield 7, 10, 0), (.aload_n ⟨0, q_l04⟩, 13, 0), (.sipush 16384, 14, 0), (.newarray .int, 17, 0), (.putfield 13, 19, 0), (.aload_n ⟨0, q_l04⟩, 22, 0), (.bipush 7, 23, 0), (.newarray .int, 25, 0), (.putfield 16, 27, 0), (.aload_n ⟨0, q_l04⟩, 30, 0), (.bipush 16, 31, 0), (.newarray .int, 33, 0), (.putfield 19, 35, 0), (.aload_n ⟨0, q_l04⟩, 38, 0), (.bipush 16, 39, 0), (.newarray .int, 41, 0), (.putfield 22, 43, 0), (.aload_n ⟨0, q_l04⟩, 46, 0), (.sipush 3072, 47, 0), (.newarray .int, 50, 0), (.putfield 25, 52, 0), (.aload_n ⟨0, q_l04⟩, 55, 0), (.sipush 3072, 56, 0), (.newarray .int, 59, 0), (.putfield 28, 61, 0), (.aload_n ⟨0, q_l04⟩, 64, 0), (.sipush 3072, 65, 0), (.newarray .boolean, 68, 0), (.putfield 31, 70, 0), (.aload_n ⟨0, q_l04⟩, 73, 0), (.sipush 3072, 74, 0), (.newarray .int, 77, 0), (.putfield 35, 79, 0), (.aload_n ⟨0, q_l04⟩, 82, 0), (.sipush 256, 83, 0), (.newarray .int, 86, 0), (.putfield 38, 88, 0), (.aload_n ⟨0, q_l04⟩, 91, 0), (.bipush 6, 92, 0), (.newarray .int, 94, 0), (.putfield 41, 96, 0), (.aload_n ⟨0, q_l04⟩, 99, 0), (.bipush 6, 100, 0), (.newarray .int, 102, 0), (.putfield 44, 104, 0), (.aload_n ⟨0, q_l04⟩, 107, 0), (.bipush 6, 108, 0), (.newarray .int, 110, 0), (.putfield 47, 112, 0), (.aload_n ⟨0, q_l04⟩, 115, 0), (.bipush 6, 116, 0), (.newarray .int, 118, 0), (.putfield 50, 120, 0), (.aload_n ⟨0, q_l04⟩, 123, 0), (.bipush 6, 124, 0), (.newarray .int, 126, 0), (.putfield 53, 128, 0), (.aload_n ⟨0, q_l04⟩, 131, 0), (.bipush 6, 132, 0), (.newarray .int, 134, 0), (.putfield 56, 136, 0), (.aload_n ⟨0, q_l04⟩, 139, 0), (.bipush 6, 140, 0), (.newarray .boolean, 142, 0), (.putfield 59, 144, 0), (.aload_n ⟨0, q_l04⟩, 147, 0), (.bipush 6, 148, 0), (.newarray .int, 150, 0), (.putfield 62, 152, 0), (.aload_n ⟨0, q_l04⟩, 155, 0), (.bipush 6, 156, 0), (.newarray .int, 158, 0), (.putfield 65, 160, 0), (.aload_n ⟨0, q_l04⟩, 163, 0), (.bipush 6, 164, 0), (.newarray .int, 166, 0), (.putfield 68, 168, 0), (.aload_n ⟨0, q_l04⟩, 171, 0), (.bipush 6, 172, 0), (.newarray .int, 174, 0), (.putfield 71, 176, 0), (.aload_n ⟨0, q_l04⟩, 179, 0), (.bipush 6, 180, 0), (.newarray .int, 182, 0), (.putfield 74, 184, 0), (.aload_n ⟨0, q_l04⟩, 187, 0), (.bipush 6, 188, 0), (.newarray .int, 190, 0), (.putfield 77, 192, 0), (.aload_n ⟨0, q_l04⟩, 195, 0), (.bipush 6, 196, 0), (.newarray .int, 198, 0), (.putfield 80, 200, 0), (.aload_n ⟨0, q_l04⟩, 203, 0), (.getfield 16, 204, 0), (.iconst 0, 207, 0), (.ldc 83, 208, 0), (.iastore, 210, 0), (.aload_n ⟨0, q_l04⟩, 211, 0), (.getfield 16, 212, 0), (.iconst 1, 215, 0), (.ldc 84, 216, 0), (.iastore, 218, 0), (.aload_n ⟨0, q_l04⟩, 219, 0), (.getfield 16, 220, 0), (.iconst 2, 223, 0), (.ldc 85, 224, 0), (.iastore, 226, 0), (.aload_n ⟨0, q_l04⟩, 227, 0), (.getfield 16, 228, 0), (.iconst 3, 231, 0), (.ldc 86, 232, 0), (.iastore, 234, 0), (.aload_n ⟨0, q_l04⟩, 235, 0), (.getfield 16, 236, 0), (.iconst 4, 239, 0), (.ldc 87, 240, 0), (.iastore, 242, 0), (.aload_n ⟨0, q_l04⟩, 243, 0), (.getfield 16, 244, 0), (.iconst 5, 247, 0), (.ldc 88, 248, 0), (.iastore, 250, 0), (.aload_n ⟨0, q_l04⟩, 251, 0), (.getfield 16, 252, 0), (.bipush 6, 255, 0), (.ldc 89, 257, 0), (.iastore, 259, 0), (.return_, 260, 0)], 261)
def B_Mo_init : q_B := [(0, b_Mo_init_0)]
theorem o_Mo_init : q_okC M_Mo_init B_Mo_init = true := by decide +kernel
theorem u_Mo_init : q_okM M_Mo_init = true := by decide +kernel
theorem l_Mo_init_0 : q_bk B_Mo_init 0 = some ([(.aload_n ⟨0, q_l04⟩, 0, 0), (.invokespecial 1, 1, 0), (.aload_n ⟨0, q_l04⟩, 4, 0), (.sipush 16384, 5, 0), (.newarray .int, 8, 0), (.putfield 7, 10, 0), (.aload_n ⟨0, q_l04⟩, 13, 0), (.sipush 16384, 14, 0), (.newarray .int, 17, 0), (.putfield 13, 19, 0), (.aload_n ⟨0, q_l04⟩, 22, 0), (.bipush 7, 23, 0), (.newarray .int, 25, 0), (.putfield 16, 27, 0), (.aload_n ⟨0, q_l04⟩, 30, 0), (.bipush 16, 31, 0), (.newarray .int, 33, 0), (.putfield 19, 35, 0), (.aload_n ⟨0, q_l04⟩, 38, 0), (.bipush 16, 39, 0), (.newarray .int, 41, 0), (.putfield 22, 43, 0), (.aload_n ⟨0, q_l04⟩, 46, 0), (.sipush 3072, 47, 0), (.newarray .int, 50, 0), (.putfield 25, 52, 0), (.aload_n ⟨0, q_l04⟩, 55, 0), (.sipush 3072, 56, 0), (.newarray .int, 59, 0), (.putfield 28, 61, 0), (.aload_n ⟨0, q_l04⟩, 64, 0), (.sipush 3072, 65, 0), (.newarray .boolean, 68, 0), (.putfield 31, 70, 0), (.aload_n ⟨0, q_l04⟩, 73, 0), (.sipush 3072, 74, 0), (.newarray .int, 77, 0), (.putfield 35, 79, 0), (.aload_n ⟨0, q_l04⟩, 82, 0), (.sipush 256, 83, 0), (.newarray .int, 86, 0), (.putfield 38, 88, 0), (.aload_n ⟨0, q_l04⟩, 91, 0), (.bipush 6, 92, 0), (.newarray .int, 94, 0), (.putfield 41, 96, 0), (.aload_n ⟨0, q_l04⟩, 99, 0), (.bipush 6, 100, 0), (.newarray .int, 102, 0), (.putfield 44, 104, 0), (.aload_n ⟨0, q_l04⟩, 107, 0), (.bipush 6, 108, 0), (.newarray .int, 110, 0), (.putfield 47, 112, 0), (.aload_n ⟨0, q_l04⟩, 115, 0), (.bipush 6, 116, 0), (.newarray .int, 118, 0), (.putfield 50, 120, 0), (.aload_n ⟨0, q_l04⟩, 123, 0), (.bipush 6, 124, 0), (.newarray .int, 126, 0), (.putfield 53, 128, 0), (.aload_n ⟨0, q_l04⟩, 131, 0), (.bipush 6, 132, 0), (.newarray .int, 134, 0), (.putfield 56, 136, 0), (.aload_n ⟨0, q_l04⟩, 139, 0), (.bipush 6, 140, 0), (.newarray .boolean, 142, 0), (.putfield 59, 144, 0), (.aload_n ⟨0, q_l04⟩, 147, 0), (.bipush 6, 148, 0), (.newarray .int, 150, 0), (.putfield 62, 152, 0), (.aload_n ⟨0, q_l04⟩, 155, 0), (.bipush 6, 156, 0), (.newarray .int, 158, 0), (.putfield 65, 160, 0), (.aload_n ⟨0, q_l04⟩, 163, 0), (.bipush 6, 164, 0), (.newarray .int, 166, 0), (.putfield 68, 168, 0), (.aload_n ⟨0, q_l04⟩, 171, 0), (.bipush 6, 172, 0), (.newarray .int, 174, 0), (.putfield 71, 176, 0), (.aload_n ⟨0, q_l04⟩, 179, 0), (.bipush 6, 180, 0), (.newarray .int, 182, 0), (.putfield 74, 184, 0), (.aload_n ⟨0, q_l04⟩, 187, 0), (.bipush 6, 188, 0), (.newarray .int, 190, 0), (.putfield 77, 192, 0), (.aload_n ⟨0, q_l04⟩, 195, 0), (.bipush 6, 196, 0), (.newarray .int, 198, 0), (.putfield 80, 200, 0), (.aload_n ⟨0, q_l04⟩, 203, 0), (.getfield 16, 204, 0), (.iconst 0, 207, 0), (.ldc 83, 208, 0), (.iastore, 210, 0), (.aload_n ⟨0, q_l04⟩, 211, 0), (.getfield 16, 212, 0), (.iconst 1, 215, 0), (.ldc 84, 216, 0), (.iastore, 218, 0), (.aload_n ⟨0, q_l04⟩, 219, 0), (.getfield 16, 220, 0), (.iconst 2, 223, 0), (.ldc 85, 224, 0), (.iastore, 226, 0), (.aload_n ⟨0, q_l04⟩, 227, 0), (.getfield 16, 228, 0), (.iconst 3, 231, 0), (.ldc 86, 232, 0), (.iastore, 234, 0), (.aload_n ⟨0, q_l04⟩, 235, 0), (.getfield 16, 236, 0), (.iconst 4, 239, 0), (.ldc 87, 240, 0), (.iastore, 242, 0), (.aload_n ⟨0, q_l04⟩, 243, 0), (.getfield 16, 244, 0), (.iconst 5, 247, 0), (.ldc 88, 248, 0), (.iastore, 250, 0), (.aload_n ⟨0, q_l04⟩, 251, 0), (.getfield 16, 252, 0), (.bipush 6, 255, 0), (.ldc 89, 257, 0), (.iastore, 259, 0), (.return_, 260, 0)], 261) := rfl
def b_Mo_thrown_0 : List (Instr × Nat × Nat) × Nat := ([(.aload_n ⟨0, q_l04⟩, 0, 0), (.getfield 90, 1, 0), (.ireturn, 4, 0)], 5)
def B_Mo_thrown : q_B := [(0, b_Mo_thrown_0)]
theorem o_Mo_thrown : q_okC M_Mo_thrown B_Mo_thrown = true := by decide +kernel
theorem u_Mo_thrown : q_okM M_Mo_thrown = true := by decide +kernel
theorem l_Mo_thrown_0 : q_bk B_Mo_thrown 0 = some ([(.aload_n ⟨0, q_l04⟩, 0, 0), (.getfield 90, 1, 0), (.ireturn, 4, 0)], 5) := rfl
def b_Mo_feed_0 : List (Instr × Nat × Nat) × Nat := ([(.aload_n ⟨0, q_l04⟩, 0, 0), (.iconst 0, 1, 0), (.putfield 90, 2, 0), (.aload_n ⟨0, q_l04⟩, 5, 0), (.getfield 94, 6, 0), (.bipush 20, 9, 0), (.iadd, 11, 0), (.sipush 16384, 12, 0), (.if_icmp .le 5, 15, 20), (.iconst (-1), 18, 0), (.ireturn, 19, 0)], 20)
def b_Mo_feed_20 : List (Instr × Nat × Nat) × Nat := ([(.aload_n ⟨0, q_l04⟩, 20, 0), (.iload_n ⟨1, q_l14⟩, 21, 0), (.invokevirtual 97, 22, 0), (.aload_n ⟨0, q_l04⟩, 25, 0), (.iload_n ⟨2, q_l24⟩, 26, 0), (.invokevirtual 97, 27, 0), (.aload_n ⟨0, q_l04⟩, 30, 0), (.iload_n ⟨3, q_l34⟩, 31, 0), (.invokevirtual 97, 32, 0), (.aload_n ⟨0, q_l04⟩, 35, 0), (.iload 4, 36, 0), (.invokevirtual 97, 38, 0), (.aload_n ⟨0, q_l04⟩, 41, 0), (.iload 5, 42, 0), (.invokevirtual 97, 44, 0), (.aload_n ⟨0, q_l04⟩, 47, 0), (.getfield 94, 48, 0), (.ireturn, 51, 0)], 52)
def B_Mo_feed : q_B := [(0, b_Mo_feed_0), (20, b_Mo_feed_20)]
theorem o_Mo_feed : q_okC M_Mo_feed B_Mo_feed = true := by decide +kernel
theorem u_Mo_feed : q_okM M_Mo_feed = true := by decide +kernel
theorem l_Mo_feed_0 : q_bk B_Mo_feed 0 = some ([(.aload_n ⟨0, q_l04⟩, 0, 0), (.iconst 0, 1, 0), (.putfield 90, 2, 0), (.aload_n ⟨0, q_l04⟩, 5, 0), (.getfield 94, 6, 0), (.bipush 20, 9, 0), (.iadd, 11, 0), (.sipush 16384, 12, 0), (.if_icmp .le 5, 15, 20), (.iconst (-1), 18, 0), (.ireturn, 19, 0)], 20) := rfl
theorem l_Mo_feed_20 : q_bk B_Mo_feed 20 = some ([(.aload_n ⟨0, q_l04⟩, 20, 0), (.iload_n ⟨1, q_l14⟩, 21, 0), (.invokevirtual 97, 22, 0), (.aload_n ⟨0, q_l04⟩, 25, 0), (.iload_n ⟨2, q_l24⟩, 26, 0), (.invokevirtual 97, 27, 0), (.aload_n ⟨0, q_l04⟩, 30, 0), (.iload_n ⟨3, q_l34⟩, 31, 0), (.invokevirtual 97, 32, 0), (.aload_n ⟨0, q_l04⟩, 35, 0), (.iload 4, 36, 0), (.invokevirtual 97, 38, 0), (.aload_n ⟨0, q_l04⟩, 41, 0), (.iload 5, 42, 0), (.invokevirtual 97, 44, 0), (.aload_n ⟨0, q_l04⟩, 47, 0), (.getfield 94, 48, 0), (.ireturn, 51, 0)], 52) := rfl
def b_Mo_put4_0 : List (Instr × Nat × Nat) × Nat := ([(.iconst 3, 0, 0), (.istore_n ⟨2, q_l24⟩, 1, 0)], 2)
def b_Mo_put4_2 : List (Instr × Nat × Nat) × Nat := ([(.iload_n ⟨2, q_l24⟩, 2, 0), (.ifCond .lt 38, 3, 41), (.aload_n ⟨0, q_l04⟩, 6, 0), (.getfield 7, 7, 0), (.aload_n ⟨0, q_l04⟩, 10, 0), (.getfield 94, 11, 0), (.iload_n ⟨1, q_l14⟩, 14, 0), (.bipush 8, 15, 0), (.iload_n ⟨2, q_l24⟩, 17, 0), (.imul, 18, 0), (.ishr, 19, 0), (.sipush 255, 20, 0), (.iand, 23, 0), (.iastore, 24, 0), (.aload_n ⟨0, q_l04⟩, 25, 0), (.dup, 26, 0), (.getfield 94, 27, 0), (.iconst 1, 30, 0), (.iadd, 31, 0), (.putfield 94, 32, 0), (.iinc 2 (-1), 35, 0), (.goto (-36), 38, 2)], 41)
def b_Mo_put4_41 : List (Instr × Nat × Nat) × Nat := ([(.return_, 41, 0)], 42)
def B_Mo_put4 : q_B := [(0, b_Mo_put4_0), (2, b_Mo_put4_2), (41, b_Mo_put4_41)]
theorem o_Mo_put4 : q_okC M_Mo_put4 B_Mo_put4 = true := by decide +kernel
theorem u_Mo_put4 : q_okM M_Mo_put4 = true := by decide +kernel
theorem l_Mo_put4_0 : q_bk B_Mo_put4 0 = some ([(.iconst 3, 0, 0), (.istore_n ⟨2, q_l24⟩, 1, 0)], 2) := rfl
theorem l_Mo_put4_2 : q_bk B_Mo_put4 2 = some ([(.iload_n ⟨2, q_l24⟩, 2, 0), (.ifCond .lt 38, 3, 41), (.aload_n ⟨0, q_l04⟩, 6, 0), (.getfield 7, 7, 0), (.aload_n ⟨0, q_l04⟩, 10, 0), (.getfield 94, 11, 0), (.iload_n ⟨1, q_l14⟩, 14, 0), (.bipush 8, 15, 0), (.iload_n ⟨2, q_l24⟩, 17, 0), (.imul, 18, 0), (.ishr, 19, 0), (.sipush 255, 20, 0), (.iand, 23, 0), (.iastore, 24, 0), (.aload_n ⟨0, q_l04⟩, 25, 0), (.dup, 26, 0), (.getfield 94, 27, 0), (.iconst 1, 30, 0), (.iadd, 31, 0), (.putfield 94, 32, 0), (.iinc 2 (-1), 35, 0), (.goto (-36), 38, 2)], 41) := rfl
theorem l_Mo_put4_41 : q_bk B_Mo_put4 41 = some ([(.return_, 41, 0)], 42) := rfl
def b_Mo_put_0 : List (Instr × Nat × Nat) × Nat := ([(.aload_n ⟨0, q_l04⟩, 0, 0), (.iload_n ⟨1, q_l14⟩, 1, 0), (.ifCond .lt 11, 2, 13), (.iload_n ⟨1, q_l14⟩, 5, 0), (.aload_n ⟨0, q_l04⟩, 6, 0), (.getfield 94, 7, 0), (.if_icmp .lt 7, 10, 17)], 13)
def b_Mo_put_13 : List (Instr × Nat × Nat) × Nat := ([(.iconst 1, 13, 0), (.goto 19, 14, 33)], 17)
def b_Mo_put_17 : List (Instr × Nat × Nat) × Nat := ([(.iload_n ⟨2, q_l24⟩, 17, 0), (.ifCond .lt 10, 18, 28), (.iload_n ⟨2, q_l24⟩, 21, 0), (.sipush 255, 22, 0), (.if_icmp .le 7, 25, 32)], 28)
def b_Mo_put_28 : List (Instr × Nat × Nat) × Nat := ([(.iconst 2, 28, 0), (.goto 4, 29, 33)], 32)
def b_Mo_put_32 : List (Instr × Nat × Nat) × Nat := ([(.iconst 0, 32, 0)], 33)
def b_Mo_put_33 : List (Instr × Nat × Nat) × Nat := ([(.invokevirtual 101, 33, 0), (.ifCond .eq 5, 36, 41), (.iconst 0, 39, 0), (.ireturn, 40, 0)], 41)
def b_Mo_put_41 : List (Instr × Nat × Nat) × Nat := ([(.aload_n ⟨0, q_l04⟩, 41, 0), (.getfield 7, 42, 0), (.iload_n ⟨1, q_l14⟩, 45, 0), (.iaload, 46, 0), (.istore_n ⟨3, q_l34⟩, 47, 0), (.aload_n ⟨0, q_l04⟩, 48, 0), (.getfield 7, 49, 0), (.iload_n ⟨1, q_l14⟩, 52, 0), (.iload_n ⟨2, q_l24⟩, 53, 0), (.iastore, 54, 0), (.iload_n ⟨3, q_l34⟩, 55, 0), (.ireturn, 56, 0)], 57)
def B_Mo_put : q_B := [(0, b_Mo_put_0), (13, b_Mo_put_13), (17, b_Mo_put_17), (28, b_Mo_put_28), (32, b_Mo_put_32), (33, b_Mo_put_33), (41, b_Mo_put_41)]
theorem o_Mo_put : q_okC M_Mo_put B_Mo_put = true := by decide +kernel
theorem u_Mo_put : q_okM M_Mo_put = true := by decide +kernel
theorem l_Mo_put_0 : q_bk B_Mo_put 0 = some ([(.aload_n ⟨0, q_l04⟩, 0, 0), (.iload_n ⟨1, q_l14⟩, 1, 0), (.ifCond .lt 11, 2, 13), (.iload_n ⟨1, q_l14⟩, 5, 0), (.aload_n ⟨0, q_l04⟩, 6, 0), (.getfield 94, 7, 0), (.if_icmp .lt 7, 10, 17)], 13) := rfl
theorem l_Mo_put_13 : q_bk B_Mo_put 13 = some ([(.iconst 1, 13, 0), (.goto 19, 14, 33)], 17) := rfl
theorem l_Mo_put_17 : q_bk B_Mo_put 17 = some ([(.iload_n ⟨2, q_l24⟩, 17, 0), (.ifCond .lt 10, 18, 28), (.iload_n ⟨2, q_l24⟩, 21, 0), (.sipush 255, 22, 0), (.if_icmp .le 7, 25, 32)], 28) := rfl
theorem l_Mo_put_28 : q_bk B_Mo_put 28 = some ([(.iconst 2, 28, 0), (.goto 4, 29, 33)], 32) := rfl
theorem l_Mo_put_32 : q_bk B_Mo_put 32 = some ([(.iconst 0, 32, 0)], 33) := rfl
theorem l_Mo_put_33 : q_bk B_Mo_put 33 = some ([(.invokevirtual 101, 33, 0), (.ifCond .eq 5, 36, 41), (.iconst 0, 39, 0), (.ireturn, 40, 0)], 41) := rfl
theorem l_Mo_put_41 : q_bk B_Mo_put 41 = some ([(.aload_n ⟨0, q_l04⟩, 41, 0), (.getfield 7, 42, 0), (.iload_n ⟨1, q_l14⟩, 45, 0), (.iaload, 46, 0), (.istore_n ⟨3, q_l34⟩, 47, 0), (.aload_n ⟨0, q_l04⟩, 48, 0), (.getfield 7, 49, 0), (.iload_n ⟨1, q_l14⟩, 52, 0), (.iload_n ⟨2, q_l24⟩, 53, 0), (.iastore, 54, 0), (.iload_n ⟨3, q_l34⟩, 55, 0), (.ireturn, 56, 0)], 57) := rfl
def b_Mo_refused_0 : List (Instr × Nat × Nat) × Nat := ([(.aload_n ⟨0, q_l04⟩, 0, 0), (.iload_n ⟨1, q_l14⟩, 1, 0), (.putfield 90, 2, 0), (.iload_n ⟨1, q_l14⟩, 5, 0), (.ifCond .le 7, 6, 13), (.iconst 1, 9, 0), (.goto 4, 10, 14)], 13)
def b_Mo_refused_13 : List (Instr × Nat × Nat) × Nat := ([(.iconst 0, 13, 0)], 14)
def b_Mo_refused_14 : List (Instr × Nat × Nat) × Nat := ([(.ireturn, 14, 0)], 15)
def B_Mo_refused : q_B := [(0, b_Mo_refused_0), (13, b_Mo_refused_13), (14, b_Mo_refused_14)]
theorem o_Mo_refused : q_okC M_Mo_refused B_Mo_refused = true := by decide +kernel
theorem u_Mo_refused : q_okM M_Mo_refused = true := by decide +kernel
theorem l_Mo_refused_0 : q_bk B_Mo_refused 0 = some ([(.aload_n ⟨0, q_l04⟩, 0, 0), (.iload_n ⟨1, q_l14⟩, 1, 0), (.putfield 90, 2, 0), (.iload_n ⟨1, q_l14⟩, 5, 0), (.ifCond .le 7, 6, 13), (.iconst 1, 9, 0), (.goto 4, 10, 14)], 13) := rfl
theorem l_Mo_refused_13 : q_bk B_Mo_refused 13 = some ([(.iconst 0, 13, 0)], 14) := rfl
theorem l_Mo_refused_14 : q_bk B_Mo_refused 14 = some ([(.ireturn, 14, 0)], 15) := rfl
def b_Mo_at_0 : List (Instr × Nat × Nat) × Nat := ([(.aload_n ⟨0, q_l04⟩, 0, 0), (.iconst 0, 1, 0), (.putfield 90, 2, 0), (.iload_n ⟨1, q_l14⟩, 5, 0), (.ifCond .lt 11, 6, 17), (.iload_n ⟨1, q_l14⟩, 9, 0), (.aload_n ⟨0, q_l04⟩, 10, 0), (.getfield 94, 11, 0), (.if_icmp .lt 7, 14, 21)], 17)
def b_Mo_at_17 : List (Instr × Nat × Nat) × Nat := ([(.iconst (-1), 17, 0), (.goto 9, 18, 27)], 21)
def b_Mo_at_21 : List (Instr × Nat × Nat) × Nat := ([(.aload_n ⟨0, q_l04⟩, 21, 0), (.getfield 7, 22, 0), (.iload_n ⟨1, q_l14⟩, 25, 0), (.iaload, 26, 0)], 27)
def b_Mo_at_27 : List (Instr × Nat × Nat) × Nat := ([(.ireturn, 27, 0)], 28)
def B_Mo_at : q_B := [(0, b_Mo_at_0), (17, b_Mo_at_17), (21, b_Mo_at_21), (27, b_Mo_at_27)]
theorem o_Mo_at : q_okC M_Mo_at B_Mo_at = true := by decide +kernel
theorem u_Mo_at : q_okM M_Mo_at = true := by decide +kernel
theorem l_Mo_at_0 : q_bk B_Mo_at 0 = some ([(.aload_n ⟨0, q_l04⟩, 0, 0), (.iconst 0, 1, 0), (.putfield 90, 2, 0), (.iload_n ⟨1, q_l14⟩, 5, 0), (.ifCond .lt 11, 6, 17), (.iload_n ⟨1, q_l14⟩, 9, 0), (.aload_n ⟨0, q_l04⟩, 10, 0), (.getfield 94, 11, 0), (.if_icmp .lt 7, 14, 21)], 17) := rfl
theorem l_Mo_at_17 : q_bk B_Mo_at 17 = some ([(.iconst (-1), 17, 0), (.goto 9, 18, 27)], 21) := rfl
theorem l_Mo_at_21 : q_bk B_Mo_at 21 = some ([(.aload_n ⟨0, q_l04⟩, 21, 0), (.getfield 7, 22, 0), (.iload_n ⟨1, q_l14⟩, 25, 0), (.iaload, 26, 0)], 27) := rfl
theorem l_Mo_at_27 : q_bk B_Mo_at 27 = some ([(.ireturn, 27, 0)], 28) := rfl
def b_Mo_cut_0 : List (Instr × Nat × Nat) × Nat := ([(.aload_n ⟨0, q_l04⟩, 0, 0), (.iload_n ⟨1, q_l14⟩, 1, 0), (.ifCond .ge 7, 2, 9), (.iconst 1, 5, 0), (.goto 4, 6, 10)], 9)
def b_Mo_cut_9 : List (Instr × Nat × Nat) × Nat := ([(.iconst 0, 9, 0)], 10)
def b_Mo_cut_10 : List (Instr × Nat × Nat) × Nat := ([(.invokevirtual 101, 10, 0), (.ifCond .eq 5, 13, 18), (.iconst 0, 16, 0), (.ireturn, 17, 0)], 18)
def b_Mo_cut_18 : List (Instr × Nat × Nat) × Nat := ([(.aload_n ⟨0, q_l04⟩, 18, 0), (.getfield 94, 19, 0), (.iload_n ⟨1, q_l14⟩, 22, 0), (.if_icmp .le 12, 23, 35), (.aload_n ⟨0, q_l04⟩, 26, 0), (.getfield 94, 27, 0), (.iload_n ⟨1, q_l14⟩, 30, 0), (.isub, 31, 0), (.goto 4, 32, 36)], 35)
def b_Mo_cut_35 : List (Instr × Nat × Nat) × Nat := ([(.iconst 0, 35, 0)], 36)
def b_Mo_cut_36 : List (Instr × Nat × Nat) × Nat := ([(.istore_n ⟨2, q_l24⟩, 36, 0), (.aload_n ⟨0, q_l04⟩, 37, 0), (.aload_n ⟨0, q_l04⟩, 38, 0), (.getfield 94, 39, 0), (.iload_n ⟨2, q_l24⟩, 42, 0), (.isub, 43, 0), (.putfield 94, 44, 0), (.iload_n ⟨2, q_l24⟩, 47, 0), (.ireturn, 48, 0)], 49)
def B_Mo_cut : q_B := [(0, b_Mo_cut_0), (9, b_Mo_cut_9), (10, b_Mo_cut_10), (18, b_Mo_cut_18), (35, b_Mo_cut_35), (36, b_Mo_cut_36)]
theorem o_Mo_cut : q_okC M_Mo_cut B_Mo_cut = true := by decide +kernel
theorem u_Mo_cut : q_okM M_Mo_cut = true := by decide +kernel
theorem l_Mo_cut_0 : q_bk B_Mo_cut 0 = some ([(.aload_n ⟨0, q_l04⟩, 0, 0), (.iload_n ⟨1, q_l14⟩, 1, 0), (.ifCond .ge 7, 2, 9), (.iconst 1, 5, 0), (.goto 4, 6, 10)], 9) := rfl
theorem l_Mo_cut_9 : q_bk B_Mo_cut 9 = some ([(.iconst 0, 9, 0)], 10) := rfl
theorem l_Mo_cut_10 : q_bk B_Mo_cut 10 = some ([(.invokevirtual 101, 10, 0), (.ifCond .eq 5, 13, 18), (.iconst 0, 16, 0), (.ireturn, 17, 0)], 18) := rfl
theorem l_Mo_cut_18 : q_bk B_Mo_cut 18 = some ([(.aload_n ⟨0, q_l04⟩, 18, 0), (.getfield 94, 19, 0), (.iload_n ⟨1, q_l14⟩, 22, 0), (.if_icmp .le 12, 23, 35), (.aload_n ⟨0, q_l04⟩, 26, 0), (.getfield 94, 27, 0), (.iload_n ⟨1, q_l14⟩, 30, 0), (.isub, 31, 0), (.goto 4, 32, 36)], 35) := rfl
theorem l_Mo_cut_35 : q_bk B_Mo_cut 35 = some ([(.iconst 0, 35, 0)], 36) := rfl
theorem l_Mo_cut_36 : q_bk B_Mo_cut 36 = some ([(.istore_n ⟨2, q_l24⟩, 36, 0), (.aload_n ⟨0, q_l04⟩, 37, 0), (.aload_n ⟨0, q_l04⟩, 38, 0), (.getfield 94, 39, 0), (.iload_n ⟨2, q_l24⟩, 42, 0), (.isub, 43, 0), (.putfield 94, 44, 0), (.iload_n ⟨2, q_l24⟩, 47, 0), (.ireturn, 48, 0)], 49) := rfl
def b_Mo_load_0 : List (Instr × Nat × Nat) × Nat := ([(.aload_n ⟨0, q_l04⟩, 0, 0), (.iconst 0, 1, 0), (.putfield 90, 2, 0), (.aload_n ⟨0, q_l04⟩, 5, 0), (.iconst 0, 6, 0), (.putfield 105, 7, 0), (.aload_n ⟨0, q_l04⟩, 10, 0), (.iconst 0, 11, 0), (.putfield 113, 12, 0), (.aload_n ⟨0, q_l04⟩, 15, 0), (.invokevirtual 215, 16, 0), (.aload_n ⟨0, q_l04⟩, 19, 0), (.getfield 105, 20, 0), (.ifCond .eq 5, 23, 28), (.iconst (-1), 26, 0), (.ireturn, 27, 0)], 28)
def b_Mo_load_28 : List (Instr × Nat × Nat) × Nat := ([(.iload_n ⟨1, q_l14⟩, 28, 0), (.ifCond .eq 7, 29, 36), (.aload_n ⟨0, q_l04⟩, 32, 0), (.invokevirtual 218, 33, 0)], 36)
def b_Mo_load_36 : List (Instr × Nat × Nat) × Nat := ([(.aload_n ⟨0, q_l04⟩, 36, 0), (.getfield 105, 37, 0), (.ifCond .eq 6, 40, 46), (.bipush (-2), 43, 0), (.ireturn, 45, 0)], 46)
def b_Mo_load_46 : List (Instr × Nat × Nat) × Nat := ([(.aload_n ⟨0, q_l04⟩, 46, 0), (.invokevirtual 221, 47, 0), (.aload_n ⟨0, q_l04⟩, 50, 0), (.getfield 105, 51, 0), (.ifCond .eq 6, 54, 60), (.bipush (-3), 57, 0), (.ireturn, 59, 0)], 60)
def b_Mo_load_60 : List (Instr × Nat × Nat) × Nat := ([(.aload_n ⟨0, q_l04⟩, 60, 0), (.invokevirtual 224, 61, 0), (.aload_n ⟨0, q_l04⟩, 64, 0), (.getfield 105, 65, 0), (.ifCond .eq 6, 68, 74), (.bipush (-4), 71, 0), (.ireturn, 73, 0)], 74)
def b_Mo_load_74 : List (Instr × Nat × Nat) × Nat := ([(.aload_n ⟨0, q_l04⟩, 74, 0), (.invokevirtual 227, 75, 0), (.aload_n ⟨0, q_l04⟩, 78, 0), (.getfield 105, 79, 0), (.ifCond .eq 6, 82, 88), (.bipush (-5), 85, 0), (.ireturn, 87, 0)], 88)
def b_Mo_load_88 : List (Instr × Nat × Nat) × Nat := ([(.iconst 0, 88, 0), (.istore_n ⟨2, q_l24⟩, 89, 0)], 90)
def b_Mo_load_90 : List (Instr × Nat × Nat) × Nat := ([(.iload_n ⟨2, q_l24⟩, 90, 0), (.aload_n ⟨0, q_l04⟩, 91, 0), (.getfield 94, 92, 0), (.if_icmp .ge 21, 95, 116), (.aload_n ⟨0, q_l04⟩, 98, 0), (.getfield 13, 99, 0), (.iload_n ⟨2, q_l24⟩, 102, 0), (.aload_n ⟨0, q_l04⟩, 103, 0), (.getfield 7, 104, 0), (.iload_n ⟨2, q_l24⟩, 107, 0), (.iaload, 108, 0), (.iastore, 109, 0), (.iinc 2 1, 110, 0), (.goto (-23), 113, 90)], 116)
def b_Mo_load_116 : List (Instr × Nat × Nat) × Nat := ([(.iconst 0, 116, 0), (.istore_n ⟨2, q_l24⟩, 117, 0)], 118)
def b_Mo_load_118 : List (Instr × Nat × Nat) × Nat := ([(.iload_n ⟨2, q_l24⟩, 118, 0), (.bipush 7, 119, 0), (.if_icmp .ge 39, 121, 160), (.aload_n ⟨0, q_l04⟩, 124, 0), (.getfield 19, 125, 0), (.bipush 8, 128, 0), (.iload_n ⟨2, q_l24⟩, 130, 0), (.iadd, 131, 0), (.aload_n ⟨0, q_l04⟩, 132, 0), (.getfield 19, 133, 0), (.iload_n ⟨2, q_l24⟩, 136, 0), (.iaload, 137, 0), (.iastore, 138, 0), (.aload_n ⟨0, q_l04⟩, 139, 0), (.getfield 22, 140, 0), (.bipush 8, 143, 0), (.iload_n ⟨2, q_l24⟩, 145, 0), (.iadd, 146, 0), (.aload_n ⟨0, q_l04⟩, 147, 0), (.getfield 22, 148, 0), (.iload_n ⟨2, q_l24⟩, 151, 0), (.iaload, 152, 0), (.iastore, 153, 0), (.iinc 2 1, 154, 0), (.goto (-39), 157, 118)], 160)
def b_Mo_load_160 : List (Instr × Nat × Nat) × Nat := ([(.aload_n ⟨0, q_l04⟩, 160, 0), (.iconst 1, 161, 0), (.putfield 230, 162, 0), (.aload_n ⟨0, q_l04⟩, 165, 0), (.iconst 1, 166, 0), (.putfield 113, 167, 0), (.aload_n ⟨0, q_l04⟩, 170, 0), (.aload_n ⟨0, q_l04⟩, 171, 0), (.iconst 1, 172, 0), (.invokevirtual 192, 173, 0), (.putfield 233, 176, 0), (.aload_n ⟨0, q_l04⟩, 179, 0), (.invokevirtual 175, 180, 0), (.ireturn, 183, 0)], 184)
def B_Mo_load : q_B := [(0, b_Mo_load_0), (28, b_Mo_load_28), (36, b_Mo_load_36), (46, b_Mo_load_46), (60, b_Mo_load_60), (74, b_Mo_load_74), (88, b_Mo_load_88), (90, b_Mo_load_90), (116, b_Mo_load_116), (118, b_Mo_load_118), (160, b_Mo_load_160)]
theorem o_Mo_load : q_okC M_Mo_load B_Mo_load = true := by decide +kernel
theorem u_Mo_load : q_okM M_Mo_load = true := by decide +kernel
theorem l_Mo_load_0 : q_bk B_Mo_load 0 = some ([(.aload_n ⟨0, q_l04⟩, 0, 0), (.iconst 0, 1, 0), (.putfield 90, 2, 0), (.aload_n ⟨0, q_l04⟩, 5, 0), (.iconst 0, 6, 0), (.putfield 105, 7, 0), (.aload_n ⟨0, q_l04⟩, 10, 0), (.iconst 0, 11, 0), (.putfield 113, 12, 0), (.aload_n ⟨0, q_l04⟩, 15, 0), (.invokevirtual 215, 16, 0), (.aload_n ⟨0, q_l04⟩, 19, 0), (.getfield 105, 20, 0), (.ifCond .eq 5, 23, 28), (.iconst (-1), 26, 0), (.ireturn, 27, 0)], 28) := rfl
theorem l_Mo_load_28 : q_bk B_Mo_load 28 = some ([(.iload_n ⟨1, q_l14⟩, 28, 0), (.ifCond .eq 7, 29, 36), (.aload_n ⟨0, q_l04⟩, 32, 0), (.invokevirtual 218, 33, 0)], 36) := rfl
theorem l_Mo_load_36 : q_bk B_Mo_load 36 = some ([(.aload_n ⟨0, q_l04⟩, 36, 0), (.getfield 105, 37, 0), (.ifCond .eq 6, 40, 46), (.bipush (-2), 43, 0), (.ireturn, 45, 0)], 46) := rfl
theorem l_Mo_load_46 : q_bk B_Mo_load 46 = some ([(.aload_n ⟨0, q_l04⟩, 46, 0), (.invokevirtual 221, 47, 0), (.aload_n ⟨0, q_l04⟩, 50, 0), (.getfield 105, 51, 0), (.ifCond .eq 6, 54, 60), (.bipush (-3), 57, 0), (.ireturn, 59, 0)], 60) := rfl
theorem l_Mo_load_60 : q_bk B_Mo_load 60 = some ([(.aload_n ⟨0, q_l04⟩, 60, 0), (.invokevirtual 224, 61, 0), (.aload_n ⟨0, q_l04⟩, 64, 0), (.getfield 105, 65, 0), (.ifCond .eq 6, 68, 74), (.bipush (-4), 71, 0), (.ireturn, 73, 0)], 74) := rfl
theorem l_Mo_load_74 : q_bk B_Mo_load 74 = some ([(.aload_n ⟨0, q_l04⟩, 74, 0), (.invokevirtual 227, 75, 0), (.aload_n ⟨0, q_l04⟩, 78, 0), (.getfield 105, 79, 0), (.ifCond .eq 6, 82, 88), (.bipush (-5), 85, 0), (.ireturn, 87, 0)], 88) := rfl
theorem l_Mo_load_88 : q_bk B_Mo_load 88 = some ([(.iconst 0, 88, 0), (.istore_n ⟨2, q_l24⟩, 89, 0)], 90) := rfl
theorem l_Mo_load_90 : q_bk B_Mo_load 90 = some ([(.iload_n ⟨2, q_l24⟩, 90, 0), (.aload_n ⟨0, q_l04⟩, 91, 0), (.getfield 94, 92, 0), (.if_icmp .ge 21, 95, 116), (.aload_n ⟨0, q_l04⟩, 98, 0), (.getfield 13, 99, 0), (.iload_n ⟨2, q_l24⟩, 102, 0), (.aload_n ⟨0, q_l04⟩, 103, 0), (.getfield 7, 104, 0), (.iload_n ⟨2, q_l24⟩, 107, 0), (.iaload, 108, 0), (.iastore, 109, 0), (.iinc 2 1, 110, 0), (.goto (-23), 113, 90)], 116) := rfl
theorem l_Mo_load_116 : q_bk B_Mo_load 116 = some ([(.iconst 0, 116, 0), (.istore_n ⟨2, q_l24⟩, 117, 0)], 118) := rfl
theorem l_Mo_load_118 : q_bk B_Mo_load 118 = some ([(.iload_n ⟨2, q_l24⟩, 118, 0), (.bipush 7, 119, 0), (.if_icmp .ge 39, 121, 160), (.aload_n ⟨0, q_l04⟩, 124, 0), (.getfield 19, 125, 0), (.bipush 8, 128, 0), (.iload_n ⟨2, q_l24⟩, 130, 0), (.iadd, 131, 0), (.aload_n ⟨0, q_l04⟩, 132, 0), (.getfield 19, 133, 0), (.iload_n ⟨2, q_l24⟩, 136, 0), (.iaload, 137, 0), (.iastore, 138, 0), (.aload_n ⟨0, q_l04⟩, 139, 0), (.getfield 22, 140, 0), (.bipush 8, 143, 0), (.iload_n ⟨2, q_l24⟩, 145, 0), (.iadd, 146, 0), (.aload_n ⟨0, q_l04⟩, 147, 0), (.getfield 22, 148, 0), (.iload_n ⟨2, q_l24⟩, 151, 0), (.iaload, 152, 0), (.iastore, 153, 0), (.iinc 2 1, 154, 0), (.goto (-39), 157, 118)], 160) := rfl
theorem l_Mo_load_160 : q_bk B_Mo_load 160 = some ([(.aload_n ⟨0, q_l04⟩, 160, 0), (.iconst 1, 161, 0), (.putfield 230, 162, 0), (.aload_n ⟨0, q_l04⟩, 165, 0), (.iconst 1, 166, 0), (.putfield 113, 167, 0), (.aload_n ⟨0, q_l04⟩, 170, 0), (.aload_n ⟨0, q_l04⟩, 171, 0), (.iconst 1, 172, 0), (.invokevirtual 192, 173, 0), (.putfield 233, 176, 0), (.aload_n ⟨0, q_l04⟩, 179, 0), (.invokevirtual 175, 180, 0), (.ireturn, 183, 0)], 184) := rfl
def b_Mo_checkFile_0 : List (Instr × Nat × Nat) × Nat := ([(.aload_n ⟨0, q_l04⟩, 0, 0), (.aload_n ⟨0, q_l04⟩, 1, 0), (.iconst 0, 2, 0), (.aload_n ⟨0, q_l04⟩, 3, 0), (.getfield 94, 4, 0), (.i2l, 7, 0), (.lconst ⟨0, q_l02⟩, 8, 0), (.invokevirtual 135, 9, 0), (.ldc2_w 124, 12, 0), (.lcmp, 15, 0), (.ifCond .ne 7, 16, 23), (.iconst 1, 19, 0), (.goto 4, 20, 24)], 23)
def b_Mo_checkFile_23 : List (Instr × Nat × Nat) × Nat := ([(.iconst 0, 23, 0)], 24)
def b_Mo_checkFile_24 : List (Instr × Nat × Nat) × Nat := ([(.invokevirtual 109, 24, 0), (.aload_n ⟨0, q_l04⟩, 27, 0), (.invokevirtual 141, 28, 0), (.istore_n ⟨1, q_l14⟩, 31, 0), (.aload_n ⟨0, q_l04⟩, 32, 0), (.iload_n ⟨1, q_l14⟩, 33, 0), (.iconst 1, 34, 0), (.if_icmp .lt 13, 35, 48), (.iload_n ⟨1, q_l14⟩, 38, 0), (.bipush 64, 39, 0), (.if_icmp .gt 7, 41, 48), (.iconst 1, 44, 0), (.goto 4, 45, 49)], 48)
def b_Mo_checkFile_48 : List (Instr × Nat × Nat) × Nat := ([(.iconst 0, 48, 0)], 49)
def b_Mo_checkFile_49 : List (Instr × Nat × Nat) × Nat := ([(.invokevirtual 109, 49, 0), (.ldc2_w 145, 52, 0), (.lstore_n ⟨2, q_l24⟩, 55, 0), (.iconst 0, 56, 0), (.istore 4, 57, 0)], 59)
def b_Mo_checkFile_59 : List (Instr × Nat × Nat) × Nat := ([(.iload 4, 59, 0), (.iload_n ⟨1, q_l14⟩, 61, 0), (.if_icmp .ge 130, 62, 192), (.aload_n ⟨0, q_l04⟩, 65, 0), (.getfield 105, 66, 0), (.ifCond .ne 123, 69, 192), (.ldc2_w 147, 72, 0), (.ldc2_w 149, 75, 0), (.iload 4, 78, 0), (.i2l, 80, 0), (.lmul, 81, 0), (.ladd, 82, 0), (.lstore 5, 83, 0), (.aload_n ⟨0, q_l04⟩, 85, 0), (.iconst 0, 86, 0), (.aload_n ⟨0, q_l04⟩, 87, 0), (.getfield 94, 88, 0), (.i2l, 91, 0), (.lload 5, 92, 0), (.invokevirtual 135, 94, 0), (.lstore 7, 97, 0), (.aload_n ⟨0, q_l04⟩, 99, 0), (.iconst 0, 100, 0), (.aload_n ⟨0, q_l04⟩, 101, 0), (.getfield 94, 102, 0), (.i2l, 105, 0), (.lload 5, 106, 0), (.ldc2_w 139, 108, 0), (.ladd, 111, 0), (.invokevirtual 135, 112, 0), (.pop2, 115, 0), (.aload_n ⟨0, q_l04⟩, 116, 0), (.lload 7, 117, 0), (.lload_n ⟨2, q_l24⟩, 119, 0), (.lcmp, 120, 0), (.ifCond .le 7, 121, 128), (.iconst 1, 124, 0), (.goto 4, 125, 129)], 128)
def b_Mo_checkFile_128 : List (Instr × Nat × Nat) × Nat := ([(.iconst 0, 128, 0)], 129)
def b_Mo_checkFile_129 : List (Instr × Nat × Nat) × Nat := ([(.invokevirtual 109, 129, 0), (.aload_n ⟨0, q_l04⟩, 132, 0), (.aload_n ⟨0, q_l04⟩, 133, 0), (.iconst 0, 134, 0), (.aload_n ⟨0, q_l04⟩, 135, 0), (.getfield 94, 136, 0), (.i2l, 139, 0), (.lload 5, 140, 0), (.ldc2_w 151, 142, 0), (.ladd, 145, 0), (.invokevirtual 135, 146, 0), (.aload_n ⟨0, q_l04⟩, 149, 0), (.iconst 0, 150, 0), (.aload_n ⟨0, q_l04⟩, 151, 0), (.getfield 94, 152, 0), (.i2l, 155, 0), (.lload 5, 156, 0), (.ldc2_w 147, 158, 0), (.ladd, 161, 0), (.invokevirtual 135, 162, 0), (.ladd, 165, 0), (.aload_n ⟨0, q_l04⟩, 166, 0), (.getfield 94, 167, 0), (.i2l, 170, 0), (.lcmp, 171, 0), (.ifCond .gt 7, 172, 179), (.iconst 1, 175, 0), (.goto 4, 176, 180)], 179)
def b_Mo_checkFile_179 : List (Instr × Nat × Nat) × Nat := ([(.iconst 0, 179, 0)], 180)
def b_Mo_checkFile_180 : List (Instr × Nat × Nat) × Nat := ([(.invokevirtual 109, 180, 0), (.lload 7, 183, 0), (.lstore_n ⟨2, q_l24⟩, 185, 0), (.iinc 4 1, 186, 0), (.goto (-130), 189, 59)], 192)
def b_Mo_checkFile_192 : List (Instr × Nat × Nat) × Nat := ([(.return_, 192, 0)], 193)
def B_Mo_checkFile : q_B := [(0, b_Mo_checkFile_0), (23, b_Mo_checkFile_23), (24, b_Mo_checkFile_24), (48, b_Mo_checkFile_48), (49, b_Mo_checkFile_49), (59, b_Mo_checkFile_59), (128, b_Mo_checkFile_128), (129, b_Mo_checkFile_129), (179, b_Mo_checkFile_179), (180, b_Mo_checkFile_180), (192, b_Mo_checkFile_192)]
theorem o_Mo_checkFile : q_okC M_Mo_checkFile B_Mo_checkFile = true := by decide +kernel
theorem u_Mo_checkFile : q_okM M_Mo_checkFile = true := by decide +kernel
theorem l_Mo_checkFile_0 : q_bk B_Mo_checkFile 0 = some ([(.aload_n ⟨0, q_l04⟩, 0, 0), (.aload_n ⟨0, q_l04⟩, 1, 0), (.iconst 0, 2, 0), (.aload_n ⟨0, q_l04⟩, 3, 0), (.getfield 94, 4, 0), (.i2l, 7, 0), (.lconst ⟨0, q_l02⟩, 8, 0), (.invokevirtual 135, 9, 0), (.ldc2_w 124, 12, 0), (.lcmp, 15, 0), (.ifCond .ne 7, 16, 23), (.iconst 1, 19, 0), (.goto 4, 20, 24)], 23) := rfl
theorem l_Mo_checkFile_23 : q_bk B_Mo_checkFile 23 = some ([(.iconst 0, 23, 0)], 24) := rfl
theorem l_Mo_checkFile_24 : q_bk B_Mo_checkFile 24 = some ([(.invokevirtual 109, 24, 0), (.aload_n ⟨0, q_l04⟩, 27, 0), (.invokevirtual 141, 28, 0), (.istore_n ⟨1, q_l14⟩, 31, 0), (.aload_n ⟨0, q_l04⟩, 32, 0), (.iload_n ⟨1, q_l14⟩, 33, 0), (.iconst 1, 34, 0), (.if_icmp .lt 13, 35, 48), (.iload_n ⟨1, q_l14⟩, 38, 0), (.bipush 64, 39, 0), (.if_icmp .gt 7, 41, 48), (.iconst 1, 44, 0), (.goto 4, 45, 49)], 48) := rfl
theorem l_Mo_checkFile_48 : q_bk B_Mo_checkFile 48 = some ([(.iconst 0, 48, 0)], 49) := rfl
theorem l_Mo_checkFile_49 : q_bk B_Mo_checkFile 49 = some ([(.invokevirtual 109, 49, 0), (.ldc2_w 145, 52, 0), (.lstore_n ⟨2, q_l24⟩, 55, 0), (.iconst 0, 56, 0), (.istore 4, 57, 0)], 59) := rfl
theorem l_Mo_checkFile_59 : q_bk B_Mo_checkFile 59 = some ([(.iload 4, 59, 0), (.iload_n ⟨1, q_l14⟩, 61, 0), (.if_icmp .ge 130, 62, 192), (.aload_n ⟨0, q_l04⟩, 65, 0), (.getfield 105, 66, 0), (.ifCond .ne 123, 69, 192), (.ldc2_w 147, 72, 0), (.ldc2_w 149, 75, 0), (.iload 4, 78, 0), (.i2l, 80, 0), (.lmul, 81, 0), (.ladd, 82, 0), (.lstore 5, 83, 0), (.aload_n ⟨0, q_l04⟩, 85, 0), (.iconst 0, 86, 0), (.aload_n ⟨0, q_l04⟩, 87, 0), (.getfield 94, 88, 0), (.i2l, 91, 0), (.lload 5, 92, 0), (.invokevirtual 135, 94, 0), (.lstore 7, 97, 0), (.aload_n ⟨0, q_l04⟩, 99, 0), (.iconst 0, 100, 0), (.aload_n ⟨0, q_l04⟩, 101, 0), (.getfield 94, 102, 0), (.i2l, 105, 0), (.lload 5, 106, 0), (.ldc2_w 139, 108, 0), (.ladd, 111, 0), (.invokevirtual 135, 112, 0), (.pop2, 115, 0), (.aload_n ⟨0, q_l04⟩, 116, 0), (.lload 7, 117, 0), (.lload_n ⟨2, q_l24⟩, 119, 0), (.lcmp, 120, 0), (.ifCond .le 7, 121, 128), (.iconst 1, 124, 0), (.goto 4, 125, 129)], 128) := rfl
theorem l_Mo_checkFile_128 : q_bk B_Mo_checkFile 128 = some ([(.iconst 0, 128, 0)], 129) := rfl
theorem l_Mo_checkFile_129 : q_bk B_Mo_checkFile 129 = some ([(.invokevirtual 109, 129, 0), (.aload_n ⟨0, q_l04⟩, 132, 0), (.aload_n ⟨0, q_l04⟩, 133, 0), (.iconst 0, 134, 0), (.aload_n ⟨0, q_l04⟩, 135, 0), (.getfield 94, 136, 0), (.i2l, 139, 0), (.lload 5, 140, 0), (.ldc2_w 151, 142, 0), (.ladd, 145, 0), (.invokevirtual 135, 146, 0), (.aload_n ⟨0, q_l04⟩, 149, 0), (.iconst 0, 150, 0), (.aload_n ⟨0, q_l04⟩, 151, 0), (.getfield 94, 152, 0), (.i2l, 155, 0), (.lload 5, 156, 0), (.ldc2_w 147, 158, 0), (.ladd, 161, 0), (.invokevirtual 135, 162, 0), (.ladd, 165, 0), (.aload_n ⟨0, q_l04⟩, 166, 0), (.getfield 94, 167, 0), (.i2l, 170, 0), (.lcmp, 171, 0), (.ifCond .gt 7, 172, 179), (.iconst 1, 175, 0), (.goto 4, 176, 180)], 179) := rfl
theorem l_Mo_checkFile_179 : q_bk B_Mo_checkFile 179 = some ([(.iconst 0, 179, 0)], 180) := rfl
theorem l_Mo_checkFile_180 : q_bk B_Mo_checkFile 180 = some ([(.invokevirtual 109, 180, 0), (.lload 7, 183, 0), (.lstore_n ⟨2, q_l24⟩, 185, 0), (.iinc 4 1, 186, 0), (.goto (-130), 189, 59)], 192) := rfl
theorem l_Mo_checkFile_192 : q_bk B_Mo_checkFile 192 = some ([(.return_, 192, 0)], 193) := rfl
def b_Mo_u32_0 : List (Instr × Nat × Nat) × Nat := ([(.ldc2_w 124, 0, 0), (.aload_n ⟨0, q_l04⟩, 3, 0), (.iload_n ⟨1, q_l14⟩, 4, 0), (.lload_n ⟨2, q_l24⟩, 5, 0), (.lload 4, 6, 0), (.invokevirtual 120, 8, 0), (.i2l, 11, 0), (.lmul, 12, 0), (.aload_n ⟨0, q_l04⟩, 13, 0), (.iload_n ⟨1, q_l14⟩, 14, 0), (.lload_n ⟨2, q_l24⟩, 15, 0), (.lload 4, 16, 0), (.ldc2_w 126, 18, 0), (.ladd, 21, 0), (.invokevirtual 120, 22, 0), (.i2l, 25, 0), (.ladd, 26, 0), (.lreturn, 27, 0)], 28)
def B_Mo_u32 : q_B := [(0, b_Mo_u32_0)]
theorem o_Mo_u32 : q_okC M_Mo_u32 B_Mo_u32 = true := by decide +kernel
theorem u_Mo_u32 : q_okM M_Mo_u32 = true := by decide +kernel
theorem l_Mo_u32_0 : q_bk B_Mo_u32 0 = some ([(.ldc2_w 124, 0, 0), (.aload_n ⟨0, q_l04⟩, 3, 0), (.iload_n ⟨1, q_l14⟩, 4, 0), (.lload_n ⟨2, q_l24⟩, 5, 0), (.lload 4, 6, 0), (.invokevirtual 120, 8, 0), (.i2l, 11, 0), (.lmul, 12, 0), (.aload_n ⟨0, q_l04⟩, 13, 0), (.iload_n ⟨1, q_l14⟩, 14, 0), (.lload_n ⟨2, q_l24⟩, 15, 0), (.lload 4, 16, 0), (.ldc2_w 126, 18, 0), (.ladd, 21, 0), (.invokevirtual 120, 22, 0), (.i2l, 25, 0), (.ladd, 26, 0), (.lreturn, 27, 0)], 28) := rfl
def b_Mo_u16_0 : List (Instr × Nat × Nat) × Nat := ([(.sipush 256, 0, 0), (.aload_n ⟨0, q_l04⟩, 3, 0), (.iload_n ⟨1, q_l14⟩, 4, 0), (.lload_n ⟨2, q_l24⟩, 5, 0), (.lload 4, 6, 0), (.invokevirtual 116, 8, 0), (.imul, 11, 0), (.aload_n ⟨0, q_l04⟩, 12, 0), (.iload_n ⟨1, q_l14⟩, 13, 0), (.lload_n ⟨2, q_l24⟩, 14, 0), (.lload 4, 15, 0), (.lconst ⟨1, q_l12⟩, 17, 0), (.ladd, 18, 0), (.invokevirtual 116, 19, 0), (.iadd, 22, 0), (.ireturn, 23, 0)], 24)
def B_Mo_u16 : q_B := [(0, b_Mo_u16_0)]
theorem o_Mo_u16 : q_okC M_Mo_u16 B_Mo_u16 = true := by decide +kernel
theorem u_Mo_u16 : q_okM M_Mo_u16 = true := by decide +kernel
theorem l_Mo_u16_0 : q_bk B_Mo_u16 0 = some ([(.sipush 256, 0, 0), (.aload_n ⟨0, q_l04⟩, 3, 0), (.iload_n ⟨1, q_l14⟩, 4, 0), (.lload_n ⟨2, q_l24⟩, 5, 0), (.lload 4, 6, 0), (.invokevirtual 116, 8, 0), (.imul, 11, 0), (.aload_n ⟨0, q_l04⟩, 12, 0), (.iload_n ⟨1, q_l14⟩, 13, 0), (.lload_n ⟨2, q_l24⟩, 14, 0), (.lload 4, 15, 0), (.lconst ⟨1, q_l12⟩, 17, 0), (.ladd, 18, 0), (.invokevirtual 116, 19, 0), (.iadd, 22, 0), (.ireturn, 23, 0)], 24) := rfl
def b_Mo_u8_0 : List (Instr × Nat × Nat) × Nat := ([(.lload 4, 0, 0), (.lconst ⟨0, q_l02⟩, 2, 0), (.lcmp, 3, 0), (.ifCond .lt 14, 4, 18), (.lload 4, 7, 0), (.lload_n ⟨2, q_l24⟩, 9, 0), (.lcmp, 10, 0), (.ifCond .ge 7, 11, 18), (.iconst 1, 14, 0), (.goto 4, 15, 19)], 18)
def b_Mo_u8_18 : List (Instr × Nat × Nat) × Nat := ([(.iconst 0, 18, 0)], 19)
def b_Mo_u8_19 : List (Instr × Nat × Nat) × Nat := ([(.istore 6, 19, 0), (.aload_n ⟨0, q_l04⟩, 21, 0), (.iload 6, 22, 0), (.invokevirtual 109, 24, 0), (.iload 6, 27, 0), (.ifCond .eq 11, 29, 40), (.iload_n ⟨1, q_l14⟩, 32, 0), (.lload 4, 33, 0), (.l2i, 35, 0), (.iadd, 36, 0), (.goto 4, 37, 41)], 40)
def b_Mo_u8_40 : List (Instr × Nat × Nat) × Nat := ([(.iconst 0, 40, 0)], 41)
def b_Mo_u8_41 : List (Instr × Nat × Nat) × Nat := ([(.istore 7, 41, 0), (.iload 6, 43, 0), (.ifCond .ne 7, 45, 52), (.iconst 0, 48, 0), (.goto 27, 49, 76)], 52)
def b_Mo_u8_52 : List (Instr × Nat × Nat) × Nat := ([(.aload_n ⟨0, q_l04⟩, 52, 0), (.getfield 113, 53, 0), (.ifCond .eq 13, 56, 69), (.aload_n ⟨0, q_l04⟩, 59, 0), (.getfield 13, 60, 0), (.iload 7, 63, 0), (.iaload, 65, 0), (.goto 10, 66, 76)], 69)
def b_Mo_u8_69 : List (Instr × Nat × Nat) × Nat := ([(.aload_n ⟨0, q_l04⟩, 69, 0), (.getfield 7, 70, 0), (.iload 7, 73, 0), (.iaload, 75, 0)], 76)
def b_Mo_u8_76 : List (Instr × Nat × Nat) × Nat := ([(.ireturn, 76, 0)], 77)
def B_Mo_u8 : q_B := [(0, b_Mo_u8_0), (18, b_Mo_u8_18), (19, b_Mo_u8_19), (40, b_Mo_u8_40), (41, b_Mo_u8_41), (52, b_Mo_u8_52), (69, b_Mo_u8_69), (76, b_Mo_u8_76)]
theorem o_Mo_u8 : q_okC M_Mo_u8 B_Mo_u8 = true := by decide +kernel
theorem u_Mo_u8 : q_okM M_Mo_u8 = true := by decide +kernel
theorem l_Mo_u8_0 : q_bk B_Mo_u8 0 = some ([(.lload 4, 0, 0), (.lconst ⟨0, q_l02⟩, 2, 0), (.lcmp, 3, 0), (.ifCond .lt 14, 4, 18), (.lload 4, 7, 0), (.lload_n ⟨2, q_l24⟩, 9, 0), (.lcmp, 10, 0), (.ifCond .ge 7, 11, 18), (.iconst 1, 14, 0), (.goto 4, 15, 19)], 18) := rfl
theorem l_Mo_u8_18 : q_bk B_Mo_u8 18 = some ([(.iconst 0, 18, 0)], 19) := rfl
theorem l_Mo_u8_19 : q_bk B_Mo_u8 19 = some ([(.istore 6, 19, 0), (.aload_n ⟨0, q_l04⟩, 21, 0), (.iload 6, 22, 0), (.invokevirtual 109, 24, 0), (.iload 6, 27, 0), (.ifCond .eq 11, 29, 40), (.iload_n ⟨1, q_l14⟩, 32, 0), (.lload 4, 33, 0), (.l2i, 35, 0), (.iadd, 36, 0), (.goto 4, 37, 41)], 40) := rfl
theorem l_Mo_u8_40 : q_bk B_Mo_u8 40 = some ([(.iconst 0, 40, 0)], 41) := rfl
theorem l_Mo_u8_41 : q_bk B_Mo_u8 41 = some ([(.istore 7, 41, 0), (.iload 6, 43, 0), (.ifCond .ne 7, 45, 52), (.iconst 0, 48, 0), (.goto 27, 49, 76)], 52) := rfl
theorem l_Mo_u8_52 : q_bk B_Mo_u8 52 = some ([(.aload_n ⟨0, q_l04⟩, 52, 0), (.getfield 113, 53, 0), (.ifCond .eq 13, 56, 69), (.aload_n ⟨0, q_l04⟩, 59, 0), (.getfield 13, 60, 0), (.iload 7, 63, 0), (.iaload, 65, 0), (.goto 10, 66, 76)], 69) := rfl
theorem l_Mo_u8_69 : q_bk B_Mo_u8 69 = some ([(.aload_n ⟨0, q_l04⟩, 69, 0), (.getfield 7, 70, 0), (.iload 7, 73, 0), (.iaload, 75, 0)], 76) := rfl
theorem l_Mo_u8_76 : q_bk B_Mo_u8 76 = some ([(.ireturn, 76, 0)], 77) := rfl
def b_Mo_need_0 : List (Instr × Nat × Nat) × Nat := ([(.aload_n ⟨0, q_l04⟩, 0, 0), (.aload_n ⟨0, q_l04⟩, 1, 0), (.getfield 105, 2, 0), (.ifCond .ne 7, 5, 12), (.iload_n ⟨1, q_l14⟩, 8, 0), (.ifCond .ne 7, 9, 16)], 12)
def b_Mo_need_12 : List (Instr × Nat × Nat) × Nat := ([(.iconst 1, 12, 0), (.goto 4, 13, 17)], 16)
def b_Mo_need_16 : List (Instr × Nat × Nat) × Nat := ([(.iconst 0, 16, 0)], 17)
def b_Mo_need_17 : List (Instr × Nat × Nat) × Nat := ([(.putfield 105, 17, 0), (.return_, 20, 0)], 21)
def B_Mo_need : q_B := [(0, b_Mo_need_0), (12, b_Mo_need_12), (16, b_Mo_need_16), (17, b_Mo_need_17)]
theorem o_Mo_need : q_okC M_Mo_need B_Mo_need = true := by decide +kernel
theorem u_Mo_need : q_okM M_Mo_need = true := by decide +kernel
theorem l_Mo_need_0 : q_bk B_Mo_need 0 = some ([(.aload_n ⟨0, q_l04⟩, 0, 0), (.aload_n ⟨0, q_l04⟩, 1, 0), (.getfield 105, 2, 0), (.ifCond .ne 7, 5, 12), (.iload_n ⟨1, q_l14⟩, 8, 0), (.ifCond .ne 7, 9, 16)], 12) := rfl
theorem l_Mo_need_12 : q_bk B_Mo_need 12 = some ([(.iconst 1, 12, 0), (.goto 4, 13, 17)], 16) := rfl
theorem l_Mo_need_16 : q_bk B_Mo_need 16 = some ([(.iconst 0, 16, 0)], 17) := rfl
theorem l_Mo_need_17 : q_bk B_Mo_need 17 = some ([(.putfield 105, 17, 0), (.return_, 20, 0)], 21) := rfl
def b_Mo_tables_0 : List (Instr × Nat × Nat) × Nat := ([(.aload_n ⟨0, q_l04⟩, 0, 0), (.iconst 0, 1, 0), (.aload_n ⟨0, q_l04⟩, 2, 0), (.getfield 94, 3, 0), (.i2l, 6, 0), (.ldc2_w 139, 7, 0), (.invokevirtual 120, 10, 0), (.ireturn, 13, 0)], 14)
def B_Mo_tables : q_B := [(0, b_Mo_tables_0)]
theorem o_Mo_tables : q_okC M_Mo_tables B_Mo_tables = true := by decide +kernel
theorem u_Mo_tables : q_okM M_Mo_tables = true := by decide +kernel
theorem l_Mo_tables_0 : q_bk B_Mo_tables 0 = some ([(.aload_n ⟨0, q_l04⟩, 0, 0), (.iconst 0, 1, 0), (.aload_n ⟨0, q_l04⟩, 2, 0), (.getfield 94, 3, 0), (.i2l, 6, 0), (.ldc2_w 139, 7, 0), (.invokevirtual 120, 10, 0), (.ireturn, 13, 0)], 14) := rfl
def b_Mo_checkSums_0 : List (Instr × Nat × Nat) × Nat := ([(.iconst 0, 0, 0), (.istore_n ⟨1, q_l14⟩, 1, 0)], 2)
def b_Mo_checkSums_2 : List (Instr × Nat × Nat) × Nat := ([(.iload_n ⟨1, q_l14⟩, 2, 0), (.aload_n ⟨0, q_l04⟩, 3, 0), (.invokevirtual 141, 4, 0), (.if_icmp .ge 82, 7, 89), (.ldc2_w 147, 10, 0), (.ldc2_w 149, 13, 0), (.iload_n ⟨1, q_l14⟩, 16, 0), (.i2l, 17, 0), (.lmul, 18, 0), (.ladd, 19, 0), (.lstore_n ⟨2, q_l24⟩, 20, 0), (.aload_n ⟨0, q_l04⟩, 21, 0), (.aload_n ⟨0, q_l04⟩, 22, 0), (.aload_n ⟨0, q_l04⟩, 23, 0), (.iconst 0, 24, 0), (.aload_n ⟨0, q_l04⟩, 25, 0), (.getfield 94, 26, 0), (.i2l, 29, 0), (.lload_n ⟨2, q_l24⟩, 30, 0), (.ldc2_w 151, 31, 0), (.ladd, 34, 0), (.invokevirtual 135, 35, 0), (.aload_n ⟨0, q_l04⟩, 38, 0), (.iconst 0, 39, 0), (.aload_n ⟨0, q_l04⟩, 40, 0), (.getfield 94, 41, 0), (.i2l, 44, 0), (.lload_n ⟨2, q_l24⟩, 45, 0), (.ldc2_w 147, 46, 0), (.ladd, 49, 0), (.invokevirtual 135, 50, 0), (.invokevirtual 157, 53, 0), (.aload_n ⟨0, q_l04⟩, 56, 0), (.iconst 0, 57, 0), (.aload_n ⟨0, q_l04⟩, 58, 0), (.getfield 94, 59, 0), (.i2l, 62, 0), (.lload_n ⟨2, q_l24⟩, 63, 0), (.ldc2_w 139, 64, 0), (.ladd, 67, 0), (.invokevirtual 135, 68, 0), (.lcmp, 71, 0), (.ifCond .ne 7, 72, 79), (.iconst 1, 75, 0), (.goto 4, 76, 80)], 79)
def b_Mo_checkSums_79 : List (Instr × Nat × Nat) × Nat := ([(.iconst 0, 79, 0)], 80)
def b_Mo_checkSums_80 : List (Instr × Nat × Nat) × Nat := ([(.invokevirtual 109, 80, 0), (.iinc 1 1, 83, 0), (.goto (-84), 86, 2)], 89)
def b_Mo_checkSums_89 : List (Instr × Nat × Nat) × Nat := ([(.return_, 89, 0)], 90)
def B_Mo_checkSums : q_B := [(0, b_Mo_checkSums_0), (2, b_Mo_checkSums_2), (79, b_Mo_checkSums_79), (80, b_Mo_checkSums_80), (89, b_Mo_checkSums_89)]
theorem o_Mo_checkSums : q_okC M_Mo_checkSums B_Mo_checkSums = true := by decide +kernel
theorem u_Mo_checkSums : q_okM M_Mo_checkSums = true := by decide +kernel
theorem l_Mo_checkSums_0 : q_bk B_Mo_checkSums 0 = some ([(.iconst 0, 0, 0), (.istore_n ⟨1, q_l14⟩, 1, 0)], 2) := rfl
theorem l_Mo_checkSums_2 : q_bk B_Mo_checkSums 2 = some ([(.iload_n ⟨1, q_l14⟩, 2, 0), (.aload_n ⟨0, q_l04⟩, 3, 0), (.invokevirtual 141, 4, 0), (.if_icmp .ge 82, 7, 89), (.ldc2_w 147, 10, 0), (.ldc2_w 149, 13, 0), (.iload_n ⟨1, q_l14⟩, 16, 0), (.i2l, 17, 0), (.lmul, 18, 0), (.ladd, 19, 0), (.lstore_n ⟨2, q_l24⟩, 20, 0), (.aload_n ⟨0, q_l04⟩, 21, 0), (.aload_n ⟨0, q_l04⟩, 22, 0), (.aload_n ⟨0, q_l04⟩, 23, 0), (.iconst 0, 24, 0), (.aload_n ⟨0, q_l04⟩, 25, 0), (.getfield 94, 26, 0), (.i2l, 29, 0), (.lload_n ⟨2, q_l24⟩, 30, 0), (.ldc2_w 151, 31, 0), (.ladd, 34, 0), (.invokevirtual 135, 35, 0), (.aload_n ⟨0, q_l04⟩, 38, 0), (.iconst 0, 39, 0), (.aload_n ⟨0, q_l04⟩, 40, 0), (.getfield 94, 41, 0), (.i2l, 44, 0), (.lload_n ⟨2, q_l24⟩, 45, 0), (.ldc2_w 147, 46, 0), (.ladd, 49, 0), (.invokevirtual 135, 50, 0), (.invokevirtual 157, 53, 0), (.aload_n ⟨0, q_l04⟩, 56, 0), (.iconst 0, 57, 0), (.aload_n ⟨0, q_l04⟩, 58, 0), (.getfield 94, 59, 0), (.i2l, 62, 0), (.lload_n ⟨2, q_l24⟩, 63, 0), (.ldc2_w 139, 64, 0), (.ladd, 67, 0), (.invokevirtual 135, 68, 0), (.lcmp, 71, 0), (.ifCond .ne 7, 72, 79), (.iconst 1, 75, 0), (.goto 4, 76, 80)], 79) := rfl
theorem l_Mo_checkSums_79 : q_bk B_Mo_checkSums 79 = some ([(.iconst 0, 79, 0)], 80) := rfl
theorem l_Mo_checkSums_80 : q_bk B_Mo_checkSums 80 = some ([(.invokevirtual 109, 80, 0), (.iinc 1 1, 83, 0), (.goto (-84), 86, 2)], 89) := rfl
theorem l_Mo_checkSums_89 : q_bk B_Mo_checkSums 89 = some ([(.return_, 89, 0)], 90) := rfl
def b_Mo_sumOf_0 : List (Instr × Nat × Nat) × Nat := ([(.lconst ⟨0, q_l02⟩, 0, 0), (.lstore 5, 1, 0), (.lconst ⟨0, q_l02⟩, 3, 0), (.lstore 7, 4, 0)], 6)
def b_Mo_sumOf_6 : List (Instr × Nat × Nat) × Nat := ([(.lload 7, 6, 0), (.lload_n ⟨3, q_l34⟩, 8, 0), (.lcmp, 9, 0), (.ifCond .ge 48, 10, 58), (.aload_n ⟨0, q_l04⟩, 13, 0), (.getfield 7, 14, 0), (.lload_n ⟨1, q_l14⟩, 17, 0), (.lload 7, 18, 0), (.ladd, 20, 0), (.l2i, 21, 0), (.iaload, 22, 0), (.i2l, 23, 0), (.lstore 9, 24, 0), (.lload 5, 26, 0), (.lload 9, 28, 0), (.ldc2_w 153, 30, 0), (.ldc2_w 151, 33, 0), (.lload 7, 36, 0), (.ldc2_w 139, 38, 0), (.lrem, 41, 0), (.lmul, 42, 0), (.lsub, 43, 0), (.l2i, 44, 0), (.lshl, 45, 0), (.ladd, 46, 0), (.lstore 5, 47, 0), (.lload 7, 49, 0), (.lconst ⟨1, q_l12⟩, 51, 0), (.ladd, 52, 0), (.lstore 7, 53, 0), (.goto (-49), 55, 6)], 58)
def b_Mo_sumOf_58 : List (Instr × Nat × Nat) × Nat := ([(.lload 5, 58, 0), (.ldc2_w 155, 60, 0), (.land, 63, 0), (.lreturn, 64, 0)], 65)
def B_Mo_sumOf : q_B := [(0, b_Mo_sumOf_0), (6, b_Mo_sumOf_6), (58, b_Mo_sumOf_58)]
theorem o_Mo_sumOf : q_okC M_Mo_sumOf B_Mo_sumOf = true := by decide +kernel
theorem u_Mo_sumOf : q_okM M_Mo_sumOf = true := by decide +kernel
theorem l_Mo_sumOf_0 : q_bk B_Mo_sumOf 0 = some ([(.lconst ⟨0, q_l02⟩, 0, 0), (.lstore 5, 1, 0), (.lconst ⟨0, q_l02⟩, 3, 0), (.lstore 7, 4, 0)], 6) := rfl
theorem l_Mo_sumOf_6 : q_bk B_Mo_sumOf 6 = some ([(.lload 7, 6, 0), (.lload_n ⟨3, q_l34⟩, 8, 0), (.lcmp, 9, 0), (.ifCond .ge 48, 10, 58), (.aload_n ⟨0, q_l04⟩, 13, 0), (.getfield 7, 14, 0), (.lload_n ⟨1, q_l14⟩, 17, 0), (.lload 7, 18, 0), (.ladd, 20, 0), (.l2i, 21, 0), (.iaload, 22, 0), (.i2l, 23, 0), (.lstore 9, 24, 0), (.lload 5, 26, 0), (.lload 9, 28, 0), (.ldc2_w 153, 30, 0), (.ldc2_w 151, 33, 0), (.lload 7, 36, 0), (.ldc2_w 139, 38, 0), (.lrem, 41, 0), (.lmul, 42, 0), (.lsub, 43, 0), (.l2i, 44, 0), (.lshl, 45, 0), (.ladd, 46, 0), (.lstore 5, 47, 0), (.lload 7, 49, 0), (.lconst ⟨1, q_l12⟩, 51, 0), (.ladd, 52, 0), (.lstore 7, 53, 0), (.goto (-49), 55, 6)], 58) := rfl
theorem l_Mo_sumOf_58 : q_bk B_Mo_sumOf 58 = some ([(.lload 5, 58, 0), (.ldc2_w 155, 60, 0), (.land, 63, 0), (.lreturn, 64, 0)], 65) := rfl
def b_Mo_findTables_0 : List (Instr × Nat × Nat) × Nat := ([(.iconst 0, 0, 0), (.istore_n ⟨1, q_l14⟩, 1, 0)], 2)
def b_Mo_findTables_2 : List (Instr × Nat × Nat) × Nat := ([(.iload_n ⟨1, q_l14⟩, 2, 0), (.bipush 7, 3, 0), (.if_icmp .ge 115, 5, 120), (.iconst 0, 8, 0), (.istore_n ⟨2, q_l24⟩, 9, 0), (.iconst 0, 10, 0), (.istore_n ⟨3, q_l34⟩, 11, 0)], 12)
def b_Mo_findTables_12 : List (Instr × Nat × Nat) × Nat := ([(.iload_n ⟨3, q_l34⟩, 12, 0), (.aload_n ⟨0, q_l04⟩, 13, 0), (.invokevirtual 141, 14, 0), (.if_icmp .ge 92, 17, 109), (.ldc2_w 147, 20, 0), (.ldc2_w 149, 23, 0), (.iload_n ⟨3, q_l34⟩, 26, 0), (.i2l, 27, 0), (.lmul, 28, 0), (.ladd, 29, 0), (.lstore 4, 30, 0), (.aload_n ⟨0, q_l04⟩, 32, 0), (.iconst 0, 33, 0), (.aload_n ⟨0, q_l04⟩, 34, 0), (.getfield 94, 35, 0), (.i2l, 38, 0), (.lload 4, 39, 0), (.invokevirtual 135, 41, 0), (.aload_n ⟨0, q_l04⟩, 44, 0), (.getfield 16, 45, 0), (.iload_n ⟨1, q_l14⟩, 48, 0), (.iaload, 49, 0), (.i2l, 50, 0), (.lcmp, 51, 0), (.ifCond .ne 51, 52, 103), (.iconst 1, 55, 0), (.istore_n ⟨2, q_l24⟩, 56, 0), (.aload_n ⟨0, q_l04⟩, 57, 0), (.getfield 19, 58, 0), (.iload_n ⟨1, q_l14⟩, 61, 0), (.aload_n ⟨0, q_l04⟩, 62, 0), (.iconst 0, 63, 0), (.aload_n ⟨0, q_l04⟩, 64, 0), (.getfield 94, 65, 0), (.i2l, 68, 0), (.lload 4, 69, 0), (.ldc2_w 151, 71, 0), (.ladd, 74, 0), (.invokevirtual 135, 75, 0), (.l2i, 78, 0), (.iastore, 79, 0), (.aload_n ⟨0, q_l04⟩, 80, 0), (.getfield 22, 81, 0), (.iload_n ⟨1, q_l14⟩, 84, 0), (.aload_n ⟨0, q_l04⟩, 85, 0), (.iconst 0, 86, 0), (.aload_n ⟨0, q_l04⟩, 87, 0), (.getfield 94, 88, 0), (.i2l, 91, 0), (.lload 4, 92, 0), (.ldc2_w 147, 94, 0), (.ladd, 97, 0), (.invokevirtual 135, 98, 0), (.l2i, 101, 0), (.iastore, 102, 0)], 103)
def b_Mo_findTables_103 : List (Instr × Nat × Nat) × Nat := ([(.iinc 3 1, 103, 0), (.goto (-94), 106, 12)], 109)
def b_Mo_findTables_109 : List (Instr × Nat × Nat) × Nat := ([(.aload_n ⟨0, q_l04⟩, 109, 0), (.iload_n ⟨2, q_l24⟩, 110, 0), (.invokevirtual 109, 111, 0), (.iinc 1 1, 114, 0), (.goto (-115), 117, 2)], 120)
def b_Mo_findTables_120 : List (Instr × Nat × Nat) × Nat := ([(.return_, 120, 0)], 121)
def B_Mo_findTables : q_B := [(0, b_Mo_findTables_0), (2, b_Mo_findTables_2), (12, b_Mo_findTables_12), (103, b_Mo_findTables_103), (109, b_Mo_findTables_109), (120, b_Mo_findTables_120)]
theorem o_Mo_findTables : q_okC M_Mo_findTables B_Mo_findTables = true := by decide +kernel
theorem u_Mo_findTables : q_okM M_Mo_findTables = true := by decide +kernel
theorem l_Mo_findTables_0 : q_bk B_Mo_findTables 0 = some ([(.iconst 0, 0, 0), (.istore_n ⟨1, q_l14⟩, 1, 0)], 2) := rfl
theorem l_Mo_findTables_2 : q_bk B_Mo_findTables 2 = some ([(.iload_n ⟨1, q_l14⟩, 2, 0), (.bipush 7, 3, 0), (.if_icmp .ge 115, 5, 120), (.iconst 0, 8, 0), (.istore_n ⟨2, q_l24⟩, 9, 0), (.iconst 0, 10, 0), (.istore_n ⟨3, q_l34⟩, 11, 0)], 12) := rfl
theorem l_Mo_findTables_12 : q_bk B_Mo_findTables 12 = some ([(.iload_n ⟨3, q_l34⟩, 12, 0), (.aload_n ⟨0, q_l04⟩, 13, 0), (.invokevirtual 141, 14, 0), (.if_icmp .ge 92, 17, 109), (.ldc2_w 147, 20, 0), (.ldc2_w 149, 23, 0), (.iload_n ⟨3, q_l34⟩, 26, 0), (.i2l, 27, 0), (.lmul, 28, 0), (.ladd, 29, 0), (.lstore 4, 30, 0), (.aload_n ⟨0, q_l04⟩, 32, 0), (.iconst 0, 33, 0), (.aload_n ⟨0, q_l04⟩, 34, 0), (.getfield 94, 35, 0), (.i2l, 38, 0), (.lload 4, 39, 0), (.invokevirtual 135, 41, 0), (.aload_n ⟨0, q_l04⟩, 44, 0), (.getfield 16, 45, 0), (.iload_n ⟨1, q_l14⟩, 48, 0), (.iaload, 49, 0), (.i2l, 50, 0), (.lcmp, 51, 0), (.ifCond .ne 51, 52, 103), (.iconst 1, 55, 0), (.istore_n ⟨2, q_l24⟩, 56, 0), (.aload_n ⟨0, q_l04⟩, 57, 0), (.getfield 19, 58, 0), (.iload_n ⟨1, q_l14⟩, 61, 0), (.aload_n ⟨0, q_l04⟩, 62, 0), (.iconst 0, 63, 0), (.aload_n ⟨0, q_l04⟩, 64, 0), (.getfield 94, 65, 0), (.i2l, 68, 0), (.lload 4, 69, 0), (.ldc2_w 151, 71, 0), (.ladd, 74, 0), (.invokevirtual 135, 75, 0), (.l2i, 78, 0), (.iastore, 79, 0), (.aload_n ⟨0, q_l04⟩, 80, 0), (.getfield 22, 81, 0), (.iload_n ⟨1, q_l14⟩, 84, 0), (.aload_n ⟨0, q_l04⟩, 85, 0), (.iconst 0, 86, 0), (.aload_n ⟨0, q_l04⟩, 87, 0), (.getfield 94, 88, 0), (.i2l, 91, 0), (.lload 4, 92, 0), (.ldc2_w 147, 94, 0), (.ladd, 97, 0), (.invokevirtual 135, 98, 0), (.l2i, 101, 0), (.iastore, 102, 0)], 103) := rfl
theorem l_Mo_findTables_103 : q_bk B_Mo_findTables 103 = some ([(.iinc 3 1, 103, 0), (.goto (-94), 106, 12)], 109) := rfl
theorem l_Mo_findTables_109 : q_bk B_Mo_findTables 109 = some ([(.aload_n ⟨0, q_l04⟩, 109, 0), (.iload_n ⟨2, q_l24⟩, 110, 0), (.invokevirtual 109, 111, 0), (.iinc 1 1, 114, 0), (.goto (-115), 117, 2)], 120) := rfl
theorem l_Mo_findTables_120 : q_bk B_Mo_findTables 120 = some ([(.return_, 120, 0)], 121) := rfl
def b_Mo_checkForms_0 : List (Instr × Nat × Nat) × Nat := ([(.aload_n ⟨0, q_l04⟩, 0, 0), (.aload_n ⟨0, q_l04⟩, 1, 0), (.getfield 22, 2, 0), (.iconst 2, 5, 0), (.iaload, 6, 0), (.bipush 54, 7, 0), (.if_icmp .lt 30, 9, 39), (.aload_n ⟨0, q_l04⟩, 12, 0), (.getfield 22, 13, 0), (.bipush 6, 16, 0), (.iaload, 18, 0), (.bipush 6, 19, 0), (.if_icmp .lt 18, 21, 39), (.aload_n ⟨0, q_l04⟩, 24, 0), (.getfield 22, 25, 0), (.iconst 3, 28, 0), (.iaload, 29, 0), (.bipush 36, 30, 0), (.if_icmp .lt 7, 32, 39), (.iconst 1, 35, 0), (.goto 4, 36, 40)], 39)
def b_Mo_checkForms_39 : List (Instr × Nat × Nat) × Nat := ([(.iconst 0, 39, 0)], 40)
def b_Mo_checkForms_40 : List (Instr × Nat × Nat) × Nat := ([(.invokevirtual 109, 40, 0), (.aload_n ⟨0, q_l04⟩, 43, 0), (.getfield 105, 44, 0), (.ifCond .eq 4, 47, 51), (.return_, 50, 0)], 51)
def b_Mo_checkForms_51 : List (Instr × Nat × Nat) × Nat := ([(.aload_n ⟨0, q_l04⟩, 51, 0), (.iconst 2, 52, 0), (.ldc2_w 173, 53, 0), (.invokevirtual 161, 56, 0), (.istore_n ⟨1, q_l14⟩, 59, 0), (.aload_n ⟨0, q_l04⟩, 60, 0), (.iload_n ⟨1, q_l14⟩, 61, 0), (.bipush 16, 62, 0), (.if_icmp .lt 26, 64, 90), (.iload_n ⟨1, q_l14⟩, 67, 0), (.sipush 16384, 68, 0), (.if_icmp .gt 19, 71, 90), (.aload_n ⟨0, q_l04⟩, 74, 0), (.iconst 2, 75, 0), (.ldc2_w 167, 76, 0), (.invokevirtual 161, 79, 0), (.iconst 1, 82, 0), (.if_icmp .gt 7, 83, 90), (.iconst 1, 86, 0), (.goto 4, 87, 91)], 90)
def b_Mo_checkForms_90 : List (Instr × Nat × Nat) × Nat := ([(.iconst 0, 90, 0)], 91)
def b_Mo_checkForms_91 : List (Instr × Nat × Nat) × Nat := ([(.invokevirtual 109, 91, 0), (.aload_n ⟨0, q_l04⟩, 94, 0), (.invokevirtual 175, 95, 0), (.istore_n ⟨2, q_l24⟩, 98, 0), (.aload_n ⟨0, q_l04⟩, 99, 0), (.invokevirtual 178, 100, 0), (.istore_n ⟨3, q_l34⟩, 103, 0), (.aload_n ⟨0, q_l04⟩, 104, 0), (.iload_n ⟨2, q_l24⟩, 105, 0), (.iconst 1, 106, 0), (.if_icmp .lt 24, 107, 131), (.iload_n ⟨2, q_l24⟩, 110, 0), (.sipush 256, 111, 0), (.if_icmp .gt 17, 114, 131), (.iload_n ⟨3, q_l34⟩, 117, 0), (.iconst 1, 118, 0), (.if_icmp .lt 12, 119, 131), (.iload_n ⟨3, q_l34⟩, 122, 0), (.iload_n ⟨2, q_l24⟩, 123, 0), (.if_icmp .gt 7, 124, 131), (.iconst 1, 127, 0), (.goto 4, 128, 132)], 131)
def b_Mo_checkForms_131 : List (Instr × Nat × Nat) × Nat := ([(.iconst 0, 131, 0)], 132)
def b_Mo_checkForms_132 : List (Instr × Nat × Nat) × Nat := ([(.invokevirtual 109, 132, 0), (.aload_n ⟨0, q_l04⟩, 135, 0), (.aload_n ⟨0, q_l04⟩, 136, 0), (.getfield 22, 137, 0), (.iconst 4, 140, 0), (.iaload, 141, 0), (.iconst 4, 142, 0), (.iload_n ⟨3, q_l34⟩, 143, 0), (.imul, 144, 0), (.iconst 2, 145, 0), (.iload_n ⟨2, q_l24⟩, 146, 0), (.iload_n ⟨3, q_l34⟩, 147, 0), (.isub, 148, 0), (.imul, 149, 0), (.iadd, 150, 0), (.if_icmp .lt 7, 151, 158), (.iconst 1, 154, 0), (.goto 4, 155, 159)], 158)
def b_Mo_checkForms_158 : List (Instr × Nat × Nat) × Nat := ([(.iconst 0, 158, 0)], 159)
def b_Mo_checkForms_159 : List (Instr × Nat × Nat) × Nat := ([(.invokevirtual 109, 159, 0), (.lconst ⟨0, q_l02⟩, 162, 0), (.lstore 4, 163, 0), (.iconst 0, 165, 0), (.istore 6, 166, 0)], 168)
def b_Mo_checkForms_168 : List (Instr × Nat × Nat) × Nat := ([(.iload 6, 168, 0), (.iload_n ⟨2, q_l24⟩, 170, 0), (.if_icmp .gt 45, 171, 216), (.aload_n ⟨0, q_l04⟩, 174, 0), (.getfield 105, 175, 0), (.ifCond .ne 38, 178, 216), (.aload_n ⟨0, q_l04⟩, 181, 0), (.iload 6, 182, 0), (.invokevirtual 181, 184, 0), (.lstore 7, 187, 0), (.aload_n ⟨0, q_l04⟩, 189, 0), (.lload 7, 190, 0), (.lload 4, 192, 0), (.lcmp, 194, 0), (.ifCond .lt 7, 195, 202), (.iconst 1, 198, 0), (.goto 4, 199, 203)], 202)
def b_Mo_checkForms_202 : List (Instr × Nat × Nat) × Nat := ([(.iconst 0, 202, 0)], 203)
def b_Mo_checkForms_203 : List (Instr × Nat × Nat) × Nat := ([(.invokevirtual 109, 203, 0), (.lload 7, 206, 0), (.lstore 4, 208, 0), (.iinc 6 1, 210, 0), (.goto (-45), 213, 168)], 216)
def b_Mo_checkForms_216 : List (Instr × Nat × Nat) × Nat := ([(.aload_n ⟨0, q_l04⟩, 216, 0), (.lload 4, 217, 0), (.aload_n ⟨0, q_l04⟩, 219, 0), (.getfield 22, 220, 0), (.iconst 1, 223, 0), (.iaload, 224, 0), (.i2l, 225, 0), (.lcmp, 226, 0), (.ifCond .gt 7, 227, 234), (.iconst 1, 230, 0), (.goto 4, 231, 235)], 234)
def b_Mo_checkForms_234 : List (Instr × Nat × Nat) × Nat := ([(.iconst 0, 234, 0)], 235)
def b_Mo_checkForms_235 : List (Instr × Nat × Nat) × Nat := ([(.invokevirtual 109, 235, 0), (.aload_n ⟨0, q_l04⟩, 238, 0), (.getfield 105, 239, 0), (.ifCond .ne 7, 242, 249), (.aload_n ⟨0, q_l04⟩, 245, 0), (.invokevirtual 185, 246, 0)], 249)
def b_Mo_checkForms_249 : List (Instr × Nat × Nat) × Nat := ([(.return_, 249, 0)], 250)
def B_Mo_checkForms : q_B := [(0, b_Mo_checkForms_0), (39, b_Mo_checkForms_39), (40, b_Mo_checkForms_40), (51, b_Mo_checkForms_51), (90, b_Mo_checkForms_90), (91, b_Mo_checkForms_91), (131, b_Mo_checkForms_131), (132, b_Mo_checkForms_132), (158, b_Mo_checkForms_158), (159, b_Mo_checkForms_159), (168, b_Mo_checkForms_168), (202, b_Mo_checkForms_202), (203, b_Mo_checkForms_203), (216, b_Mo_checkForms_216), (234, b_Mo_checkForms_234), (235, b_Mo_checkForms_235), (249, b_Mo_checkForms_249)]
theorem o_Mo_checkForms : q_okC M_Mo_checkForms B_Mo_checkForms = true := by decide +kernel
theorem u_Mo_checkForms : q_okM M_Mo_checkForms = true := by decide +kernel
theorem l_Mo_checkForms_0 : q_bk B_Mo_checkForms 0 = some ([(.aload_n ⟨0, q_l04⟩, 0, 0), (.aload_n ⟨0, q_l04⟩, 1, 0), (.getfield 22, 2, 0), (.iconst 2, 5, 0), (.iaload, 6, 0), (.bipush 54, 7, 0), (.if_icmp .lt 30, 9, 39), (.aload_n ⟨0, q_l04⟩, 12, 0), (.getfield 22, 13, 0), (.bipush 6, 16, 0), (.iaload, 18, 0), (.bipush 6, 19, 0), (.if_icmp .lt 18, 21, 39), (.aload_n ⟨0, q_l04⟩, 24, 0), (.getfield 22, 25, 0), (.iconst 3, 28, 0), (.iaload, 29, 0), (.bipush 36, 30, 0), (.if_icmp .lt 7, 32, 39), (.iconst 1, 35, 0), (.goto 4, 36, 40)], 39) := rfl
theorem l_Mo_checkForms_39 : q_bk B_Mo_checkForms 39 = some ([(.iconst 0, 39, 0)], 40) := rfl
theorem l_Mo_checkForms_40 : q_bk B_Mo_checkForms 40 = some ([(.invokevirtual 109, 40, 0), (.aload_n ⟨0, q_l04⟩, 43, 0), (.getfield 105, 44, 0), (.ifCond .eq 4, 47, 51), (.return_, 50, 0)], 51) := rfl
theorem l_Mo_checkForms_51 : q_bk B_Mo_checkForms 51 = some ([(.aload_n ⟨0, q_l04⟩, 51, 0), (.iconst 2, 52, 0), (.ldc2_w 173, 53, 0), (.invokevirtual 161, 56, 0), (.istore_n ⟨1, q_l14⟩, 59, 0), (.aload_n ⟨0, q_l04⟩, 60, 0), (.iload_n ⟨1, q_l14⟩, 61, 0), (.bipush 16, 62, 0), (.if_icmp .lt 26, 64, 90), (.iload_n ⟨1, q_l14⟩, 67, 0), (.sipush 16384, 68, 0), (.if_icmp .gt 19, 71, 90), (.aload_n ⟨0, q_l04⟩, 74, 0), (.iconst 2, 75, 0), (.ldc2_w 167, 76, 0), (.invokevirtual 161, 79, 0), (.iconst 1, 82, 0), (.if_icmp .gt 7, 83, 90), (.iconst 1, 86, 0), (.goto 4, 87, 91)], 90) := rfl
theorem l_Mo_checkForms_90 : q_bk B_Mo_checkForms 90 = some ([(.iconst 0, 90, 0)], 91) := rfl
theorem l_Mo_checkForms_91 : q_bk B_Mo_checkForms 91 = some ([(.invokevirtual 109, 91, 0), (.aload_n ⟨0, q_l04⟩, 94, 0), (.invokevirtual 175, 95, 0), (.istore_n ⟨2, q_l24⟩, 98, 0), (.aload_n ⟨0, q_l04⟩, 99, 0), (.invokevirtual 178, 100, 0), (.istore_n ⟨3, q_l34⟩, 103, 0), (.aload_n ⟨0, q_l04⟩, 104, 0), (.iload_n ⟨2, q_l24⟩, 105, 0), (.iconst 1, 106, 0), (.if_icmp .lt 24, 107, 131), (.iload_n ⟨2, q_l24⟩, 110, 0), (.sipush 256, 111, 0), (.if_icmp .gt 17, 114, 131), (.iload_n ⟨3, q_l34⟩, 117, 0), (.iconst 1, 118, 0), (.if_icmp .lt 12, 119, 131), (.iload_n ⟨3, q_l34⟩, 122, 0), (.iload_n ⟨2, q_l24⟩, 123, 0), (.if_icmp .gt 7, 124, 131), (.iconst 1, 127, 0), (.goto 4, 128, 132)], 131) := rfl
theorem l_Mo_checkForms_131 : q_bk B_Mo_checkForms 131 = some ([(.iconst 0, 131, 0)], 132) := rfl
theorem l_Mo_checkForms_132 : q_bk B_Mo_checkForms 132 = some ([(.invokevirtual 109, 132, 0), (.aload_n ⟨0, q_l04⟩, 135, 0), (.aload_n ⟨0, q_l04⟩, 136, 0), (.getfield 22, 137, 0), (.iconst 4, 140, 0), (.iaload, 141, 0), (.iconst 4, 142, 0), (.iload_n ⟨3, q_l34⟩, 143, 0), (.imul, 144, 0), (.iconst 2, 145, 0), (.iload_n ⟨2, q_l24⟩, 146, 0), (.iload_n ⟨3, q_l34⟩, 147, 0), (.isub, 148, 0), (.imul, 149, 0), (.iadd, 150, 0), (.if_icmp .lt 7, 151, 158), (.iconst 1, 154, 0), (.goto 4, 155, 159)], 158) := rfl
theorem l_Mo_checkForms_158 : q_bk B_Mo_checkForms 158 = some ([(.iconst 0, 158, 0)], 159) := rfl
theorem l_Mo_checkForms_159 : q_bk B_Mo_checkForms 159 = some ([(.invokevirtual 109, 159, 0), (.lconst ⟨0, q_l02⟩, 162, 0), (.lstore 4, 163, 0), (.iconst 0, 165, 0), (.istore 6, 166, 0)], 168) := rfl
theorem l_Mo_checkForms_168 : q_bk B_Mo_checkForms 168 = some ([(.iload 6, 168, 0), (.iload_n ⟨2, q_l24⟩, 170, 0), (.if_icmp .gt 45, 171, 216), (.aload_n ⟨0, q_l04⟩, 174, 0), (.getfield 105, 175, 0), (.ifCond .ne 38, 178, 216), (.aload_n ⟨0, q_l04⟩, 181, 0), (.iload 6, 182, 0), (.invokevirtual 181, 184, 0), (.lstore 7, 187, 0), (.aload_n ⟨0, q_l04⟩, 189, 0), (.lload 7, 190, 0), (.lload 4, 192, 0), (.lcmp, 194, 0), (.ifCond .lt 7, 195, 202), (.iconst 1, 198, 0), (.goto 4, 199, 203)], 202) := rfl
theorem l_Mo_checkForms_202 : q_bk B_Mo_checkForms 202 = some ([(.iconst 0, 202, 0)], 203) := rfl
theorem l_Mo_checkForms_203 : q_bk B_Mo_checkForms 203 = some ([(.invokevirtual 109, 203, 0), (.lload 7, 206, 0), (.lstore 4, 208, 0), (.iinc 6 1, 210, 0), (.goto (-45), 213, 168)], 216) := rfl
theorem l_Mo_checkForms_216 : q_bk B_Mo_checkForms 216 = some ([(.aload_n ⟨0, q_l04⟩, 216, 0), (.lload 4, 217, 0), (.aload_n ⟨0, q_l04⟩, 219, 0), (.getfield 22, 220, 0), (.iconst 1, 223, 0), (.iaload, 224, 0), (.i2l, 225, 0), (.lcmp, 226, 0), (.ifCond .gt 7, 227, 234), (.iconst 1, 230, 0), (.goto 4, 231, 235)], 234) := rfl
theorem l_Mo_checkForms_234 : q_bk B_Mo_checkForms 234 = some ([(.iconst 0, 234, 0)], 235) := rfl
theorem l_Mo_checkForms_235 : q_bk B_Mo_checkForms 235 = some ([(.invokevirtual 109, 235, 0), (.aload_n ⟨0, q_l04⟩, 238, 0), (.getfield 105, 239, 0), (.ifCond .ne 7, 242, 249), (.aload_n ⟨0, q_l04⟩, 245, 0), (.invokevirtual 185, 246, 0)], 249) := rfl
theorem l_Mo_checkForms_249 : q_bk B_Mo_checkForms 249 = some ([(.return_, 249, 0)], 250) := rfl
def b_Mo_t16_0 : List (Instr × Nat × Nat) × Nat := ([(.aload_n ⟨0, q_l04⟩, 0, 0), (.aload_n ⟨0, q_l04⟩, 1, 0), (.iload_n ⟨1, q_l14⟩, 2, 0), (.invokevirtual 128, 3, 0), (.aload_n ⟨0, q_l04⟩, 6, 0), (.iload_n ⟨1, q_l14⟩, 7, 0), (.invokevirtual 132, 8, 0), (.i2l, 11, 0), (.lload_n ⟨2, q_l24⟩, 12, 0), (.invokevirtual 120, 13, 0), (.ireturn, 16, 0)], 17)
def B_Mo_t16 : q_B := [(0, b_Mo_t16_0)]
theorem o_Mo_t16 : q_okC M_Mo_t16 B_Mo_t16 = true := by decide +kernel
theorem u_Mo_t16 : q_okM M_Mo_t16 = true := by decide +kernel
theorem l_Mo_t16_0 : q_bk B_Mo_t16 0 = some ([(.aload_n ⟨0, q_l04⟩, 0, 0), (.aload_n ⟨0, q_l04⟩, 1, 0), (.iload_n ⟨1, q_l14⟩, 2, 0), (.invokevirtual 128, 3, 0), (.aload_n ⟨0, q_l04⟩, 6, 0), (.iload_n ⟨1, q_l14⟩, 7, 0), (.invokevirtual 132, 8, 0), (.i2l, 11, 0), (.lload_n ⟨2, q_l24⟩, 12, 0), (.invokevirtual 120, 13, 0), (.ireturn, 16, 0)], 17) := rfl
def b_Mo_tableAt_0 : List (Instr × Nat × Nat) × Nat := ([(.aload_n ⟨0, q_l04⟩, 0, 0), (.getfield 113, 1, 0), (.ifCond .eq 15, 4, 19), (.aload_n ⟨0, q_l04⟩, 7, 0), (.getfield 19, 8, 0), (.bipush 8, 11, 0), (.iload_n ⟨1, q_l14⟩, 13, 0), (.iadd, 14, 0), (.iaload, 15, 0), (.goto 9, 16, 25)], 19)
def b_Mo_tableAt_19 : List (Instr × Nat × Nat) × Nat := ([(.aload_n ⟨0, q_l04⟩, 19, 0), (.getfield 19, 20, 0), (.iload_n ⟨1, q_l14⟩, 23, 0), (.iaload, 24, 0)], 25)
def b_Mo_tableAt_25 : List (Instr × Nat × Nat) × Nat := ([(.ireturn, 25, 0)], 26)
def B_Mo_tableAt : q_B := [(0, b_Mo_tableAt_0), (19, b_Mo_tableAt_19), (25, b_Mo_tableAt_25)]
theorem o_Mo_tableAt : q_okC M_Mo_tableAt B_Mo_tableAt = true := by decide +kernel
theorem u_Mo_tableAt : q_okM M_Mo_tableAt = true := by decide +kernel
theorem l_Mo_tableAt_0 : q_bk B_Mo_tableAt 0 = some ([(.aload_n ⟨0, q_l04⟩, 0, 0), (.getfield 113, 1, 0), (.ifCond .eq 15, 4, 19), (.aload_n ⟨0, q_l04⟩, 7, 0), (.getfield 19, 8, 0), (.bipush 8, 11, 0), (.iload_n ⟨1, q_l14⟩, 13, 0), (.iadd, 14, 0), (.iaload, 15, 0), (.goto 9, 16, 25)], 19) := rfl
theorem l_Mo_tableAt_19 : q_bk B_Mo_tableAt 19 = some ([(.aload_n ⟨0, q_l04⟩, 19, 0), (.getfield 19, 20, 0), (.iload_n ⟨1, q_l14⟩, 23, 0), (.iaload, 24, 0)], 25) := rfl
theorem l_Mo_tableAt_25 : q_bk B_Mo_tableAt 25 = some ([(.ireturn, 25, 0)], 26) := rfl
def b_Mo_tableLength_0 : List (Instr × Nat × Nat) × Nat := ([(.aload_n ⟨0, q_l04⟩, 0, 0), (.getfield 113, 1, 0), (.ifCond .eq 15, 4, 19), (.aload_n ⟨0, q_l04⟩, 7, 0), (.getfield 22, 8, 0), (.bipush 8, 11, 0), (.iload_n ⟨1, q_l14⟩, 13, 0), (.iadd, 14, 0), (.iaload, 15, 0), (.goto 9, 16, 25)], 19)
def b_Mo_tableLength_19 : List (Instr × Nat × Nat) × Nat := ([(.aload_n ⟨0, q_l04⟩, 19, 0), (.getfield 22, 20, 0), (.iload_n ⟨1, q_l14⟩, 23, 0), (.iaload, 24, 0)], 25)
def b_Mo_tableLength_25 : List (Instr × Nat × Nat) × Nat := ([(.ireturn, 25, 0)], 26)
def B_Mo_tableLength : q_B := [(0, b_Mo_tableLength_0), (19, b_Mo_tableLength_19), (25, b_Mo_tableLength_25)]
theorem o_Mo_tableLength : q_okC M_Mo_tableLength B_Mo_tableLength = true := by decide +kernel
theorem u_Mo_tableLength : q_okM M_Mo_tableLength = true := by decide +kernel
theorem l_Mo_tableLength_0 : q_bk B_Mo_tableLength 0 = some ([(.aload_n ⟨0, q_l04⟩, 0, 0), (.getfield 113, 1, 0), (.ifCond .eq 15, 4, 19), (.aload_n ⟨0, q_l04⟩, 7, 0), (.getfield 22, 8, 0), (.bipush 8, 11, 0), (.iload_n ⟨1, q_l14⟩, 13, 0), (.iadd, 14, 0), (.iaload, 15, 0), (.goto 9, 16, 25)], 19) := rfl
theorem l_Mo_tableLength_19 : q_bk B_Mo_tableLength 19 = some ([(.aload_n ⟨0, q_l04⟩, 19, 0), (.getfield 22, 20, 0), (.iload_n ⟨1, q_l14⟩, 23, 0), (.iaload, 24, 0)], 25) := rfl
theorem l_Mo_tableLength_25 : q_bk B_Mo_tableLength 25 = some ([(.ireturn, 25, 0)], 26) := rfl
def b_Mo_glyphCount_0 : List (Instr × Nat × Nat) × Nat := ([(.aload_n ⟨0, q_l04⟩, 0, 0), (.bipush 6, 1, 0), (.ldc2_w 139, 3, 0), (.invokevirtual 161, 6, 0), (.ireturn, 9, 0)], 10)
def B_Mo_glyphCount : q_B := [(0, b_Mo_glyphCount_0)]
theorem o_Mo_glyphCount : q_okC M_Mo_glyphCount B_Mo_glyphCount = true := by decide +kernel
theorem u_Mo_glyphCount : q_okM M_Mo_glyphCount = true := by decide +kernel
theorem l_Mo_glyphCount_0 : q_bk B_Mo_glyphCount 0 = some ([(.aload_n ⟨0, q_l04⟩, 0, 0), (.bipush 6, 1, 0), (.ldc2_w 139, 3, 0), (.invokevirtual 161, 6, 0), (.ireturn, 9, 0)], 10) := rfl
def b_Mo_longCount_0 : List (Instr × Nat × Nat) × Nat := ([(.aload_n ⟨0, q_l04⟩, 0, 0), (.iconst 3, 1, 0), (.ldc2_w 165, 2, 0), (.invokevirtual 161, 5, 0), (.ireturn, 8, 0)], 9)
def B_Mo_longCount : q_B := [(0, b_Mo_longCount_0)]
theorem o_Mo_longCount : q_okC M_Mo_longCount B_Mo_longCount = true := by decide +kernel
theorem u_Mo_longCount : q_okM M_Mo_longCount = true := by decide +kernel
theorem l_Mo_longCount_0 : q_bk B_Mo_longCount 0 = some ([(.aload_n ⟨0, q_l04⟩, 0, 0), (.iconst 3, 1, 0), (.ldc2_w 165, 2, 0), (.invokevirtual 161, 5, 0), (.ireturn, 8, 0)], 9) := rfl
def b_Mo_dataAt_0 : List (Instr × Nat × Nat) × Nat := ([(.aload_n ⟨0, q_l04⟩, 0, 0), (.iconst 2, 1, 0), (.ldc2_w 167, 2, 0), (.invokevirtual 161, 5, 0), (.ifCond .ne 22, 8, 30), (.ldc2_w 126, 11, 0), (.aload_n ⟨0, q_l04⟩, 14, 0), (.iconst 5, 15, 0), (.ldc2_w 126, 16, 0), (.iload_n ⟨1, q_l14⟩, 19, 0), (.i2l, 20, 0), (.lmul, 21, 0), (.invokevirtual 161, 22, 0), (.i2l, 25, 0), (.lmul, 26, 0), (.goto 14, 27, 41)], 30)
def b_Mo_dataAt_30 : List (Instr × Nat × Nat) × Nat := ([(.aload_n ⟨0, q_l04⟩, 30, 0), (.iconst 5, 31, 0), (.ldc2_w 139, 32, 0), (.iload_n ⟨1, q_l14⟩, 35, 0), (.i2l, 36, 0), (.lmul, 37, 0), (.invokevirtual 169, 38, 0)], 41)
def b_Mo_dataAt_41 : List (Instr × Nat × Nat) × Nat := ([(.lreturn, 41, 0)], 42)
def B_Mo_dataAt : q_B := [(0, b_Mo_dataAt_0), (30, b_Mo_dataAt_30), (41, b_Mo_dataAt_41)]
theorem o_Mo_dataAt : q_okC M_Mo_dataAt B_Mo_dataAt = true := by decide +kernel
theorem u_Mo_dataAt : q_okM M_Mo_dataAt = true := by decide +kernel
theorem l_Mo_dataAt_0 : q_bk B_Mo_dataAt 0 = some ([(.aload_n ⟨0, q_l04⟩, 0, 0), (.iconst 2, 1, 0), (.ldc2_w 167, 2, 0), (.invokevirtual 161, 5, 0), (.ifCond .ne 22, 8, 30), (.ldc2_w 126, 11, 0), (.aload_n ⟨0, q_l04⟩, 14, 0), (.iconst 5, 15, 0), (.ldc2_w 126, 16, 0), (.iload_n ⟨1, q_l14⟩, 19, 0), (.i2l, 20, 0), (.lmul, 21, 0), (.invokevirtual 161, 22, 0), (.i2l, 25, 0), (.lmul, 26, 0), (.goto 14, 27, 41)], 30) := rfl
theorem l_Mo_dataAt_30 : q_bk B_Mo_dataAt 30 = some ([(.aload_n ⟨0, q_l04⟩, 30, 0), (.iconst 5, 31, 0), (.ldc2_w 139, 32, 0), (.iload_n ⟨1, q_l14⟩, 35, 0), (.i2l, 36, 0), (.lmul, 37, 0), (.invokevirtual 169, 38, 0)], 41) := rfl
theorem l_Mo_dataAt_41 : q_bk B_Mo_dataAt 41 = some ([(.lreturn, 41, 0)], 42) := rfl
def b_Mo_t32_0 : List (Instr × Nat × Nat) × Nat := ([(.aload_n ⟨0, q_l04⟩, 0, 0), (.aload_n ⟨0, q_l04⟩, 1, 0), (.iload_n ⟨1, q_l14⟩, 2, 0), (.invokevirtual 128, 3, 0), (.aload_n ⟨0, q_l04⟩, 6, 0), (.iload_n ⟨1, q_l14⟩, 7, 0), (.invokevirtual 132, 8, 0), (.i2l, 11, 0), (.lload_n ⟨2, q_l24⟩, 12, 0), (.invokevirtual 135, 13, 0), (.lreturn, 16, 0)], 17)
def B_Mo_t32 : q_B := [(0, b_Mo_t32_0)]
theorem o_Mo_t32 : q_okC M_Mo_t32 B_Mo_t32 = true := by decide +kernel
theorem u_Mo_t32 : q_okM M_Mo_t32 = true := by decide +kernel
theorem l_Mo_t32_0 : q_bk B_Mo_t32 0 = some ([(.aload_n ⟨0, q_l04⟩, 0, 0), (.aload_n ⟨0, q_l04⟩, 1, 0), (.iload_n ⟨1, q_l14⟩, 2, 0), (.invokevirtual 128, 3, 0), (.aload_n ⟨0, q_l04⟩, 6, 0), (.iload_n ⟨1, q_l14⟩, 7, 0), (.invokevirtual 132, 8, 0), (.i2l, 11, 0), (.lload_n ⟨2, q_l24⟩, 12, 0), (.invokevirtual 135, 13, 0), (.lreturn, 16, 0)], 17) := rfl
def b_Mo_checkMap_0 : List (Instr × Nat × Nat) × Nat := ([(.aload_n ⟨0, q_l04⟩, 0, 0), (.iconst 0, 1, 0), (.ldc2_w 126, 2, 0), (.invokevirtual 161, 5, 0), (.istore_n ⟨1, q_l14⟩, 8, 0), (.iconst 0, 9, 0), (.istore_n ⟨2, q_l24⟩, 10, 0)], 11)
def b_Mo_checkMap_11 : List (Instr × Nat × Nat) × Nat := ([(.iload_n ⟨2, q_l24⟩, 11, 0), (.iload_n ⟨1, q_l14⟩, 12, 0), (.if_icmp .ge 48, 13, 61), (.aload_n ⟨0, q_l04⟩, 16, 0), (.getfield 105, 17, 0), (.ifCond .ne 41, 20, 61), (.aload_n ⟨0, q_l04⟩, 23, 0), (.iconst 0, 24, 0), (.ldc2_w 139, 25, 0), (.ldc2_w 151, 28, 0), (.iload_n ⟨2, q_l24⟩, 31, 0), (.i2l, 32, 0), (.lmul, 33, 0), (.ladd, 34, 0), (.invokevirtual 169, 35, 0), (.pop2, 38, 0), (.aload_n ⟨0, q_l04⟩, 39, 0), (.iconst 0, 40, 0), (.ldc2_w 151, 41, 0), (.ldc2_w 151, 44, 0), (.iload_n ⟨2, q_l24⟩, 47, 0), (.i2l, 48, 0), (.lmul, 49, 0), (.ladd, 50, 0), (.invokevirtual 169, 51, 0), (.pop2, 54, 0), (.iinc 2 1, 55, 0), (.goto (-47), 58, 11)], 61)
def b_Mo_checkMap_61 : List (Instr × Nat × Nat) × Nat := ([(.aload_n ⟨0, q_l04⟩, 61, 0), (.aload_n ⟨0, q_l04⟩, 62, 0), (.getfield 105, 63, 0), (.ifCond .ne 23, 66, 89), (.aload_n ⟨0, q_l04⟩, 69, 0), (.iconst 1, 70, 0), (.invokevirtual 192, 71, 0), (.ifCond .ne 11, 74, 85), (.aload_n ⟨0, q_l04⟩, 77, 0), (.iconst 0, 78, 0), (.invokevirtual 192, 79, 0), (.ifCond .eq 7, 82, 89)], 85)
def b_Mo_checkMap_85 : List (Instr × Nat × Nat) × Nat := ([(.iconst 1, 85, 0), (.goto 4, 86, 90)], 89)
def b_Mo_checkMap_89 : List (Instr × Nat × Nat) × Nat := ([(.iconst 0, 89, 0)], 90)
def b_Mo_checkMap_90 : List (Instr × Nat × Nat) × Nat := ([(.invokevirtual 109, 90, 0), (.aload_n ⟨0, q_l04⟩, 93, 0), (.getfield 105, 94, 0), (.ifCond .eq 4, 97, 101), (.return_, 100, 0)], 101)
def b_Mo_checkMap_101 : List (Instr × Nat × Nat) × Nat := ([(.aload_n ⟨0, q_l04⟩, 101, 0), (.iconst 1, 102, 0), (.invokevirtual 192, 103, 0), (.ifCond .eq 15, 106, 121), (.aload_n ⟨0, q_l04⟩, 109, 0), (.aload_n ⟨0, q_l04⟩, 110, 0), (.iconst 1, 111, 0), (.invokevirtual 188, 112, 0), (.invokevirtual 196, 115, 0), (.goto 12, 118, 130)], 121)
def b_Mo_checkMap_121 : List (Instr × Nat × Nat) × Nat := ([(.aload_n ⟨0, q_l04⟩, 121, 0), (.aload_n ⟨0, q_l04⟩, 122, 0), (.iconst 0, 123, 0), (.invokevirtual 188, 124, 0), (.invokevirtual 200, 127, 0)], 130)
def b_Mo_checkMap_130 : List (Instr × Nat × Nat) × Nat := ([(.return_, 130, 0)], 131)
def B_Mo_checkMap : q_B := [(0, b_Mo_checkMap_0), (11, b_Mo_checkMap_11), (61, b_Mo_checkMap_61), (85, b_Mo_checkMap_85), (89, b_Mo_checkMap_89), (90, b_Mo_checkMap_90), (101, b_Mo_checkMap_101), (121, b_Mo_checkMap_121), (130, b_Mo_checkMap_130)]
theorem o_Mo_checkMap : q_okC M_Mo_checkMap B_Mo_checkMap = true := by decide +kernel
theorem u_Mo_checkMap : q_okM M_Mo_checkMap = true := by decide +kernel
theorem l_Mo_checkMap_0 : q_bk B_Mo_checkMap 0 = some ([(.aload_n ⟨0, q_l04⟩, 0, 0), (.iconst 0, 1, 0), (.ldc2_w 126, 2, 0), (.invokevirtual 161, 5, 0), (.istore_n ⟨1, q_l14⟩, 8, 0), (.iconst 0, 9, 0), (.istore_n ⟨2, q_l24⟩, 10, 0)], 11) := rfl
theorem l_Mo_checkMap_11 : q_bk B_Mo_checkMap 11 = some ([(.iload_n ⟨2, q_l24⟩, 11, 0), (.iload_n ⟨1, q_l14⟩, 12, 0), (.if_icmp .ge 48, 13, 61), (.aload_n ⟨0, q_l04⟩, 16, 0), (.getfield 105, 17, 0), (.ifCond .ne 41, 20, 61), (.aload_n ⟨0, q_l04⟩, 23, 0), (.iconst 0, 24, 0), (.ldc2_w 139, 25, 0), (.ldc2_w 151, 28, 0), (.iload_n ⟨2, q_l24⟩, 31, 0), (.i2l, 32, 0), (.lmul, 33, 0), (.ladd, 34, 0), (.invokevirtual 169, 35, 0), (.pop2, 38, 0), (.aload_n ⟨0, q_l04⟩, 39, 0), (.iconst 0, 40, 0), (.ldc2_w 151, 41, 0), (.ldc2_w 151, 44, 0), (.iload_n ⟨2, q_l24⟩, 47, 0), (.i2l, 48, 0), (.lmul, 49, 0), (.ladd, 50, 0), (.invokevirtual 169, 51, 0), (.pop2, 54, 0), (.iinc 2 1, 55, 0), (.goto (-47), 58, 11)], 61) := rfl
theorem l_Mo_checkMap_61 : q_bk B_Mo_checkMap 61 = some ([(.aload_n ⟨0, q_l04⟩, 61, 0), (.aload_n ⟨0, q_l04⟩, 62, 0), (.getfield 105, 63, 0), (.ifCond .ne 23, 66, 89), (.aload_n ⟨0, q_l04⟩, 69, 0), (.iconst 1, 70, 0), (.invokevirtual 192, 71, 0), (.ifCond .ne 11, 74, 85), (.aload_n ⟨0, q_l04⟩, 77, 0), (.iconst 0, 78, 0), (.invokevirtual 192, 79, 0), (.ifCond .eq 7, 82, 89)], 85) := rfl
theorem l_Mo_checkMap_85 : q_bk B_Mo_checkMap 85 = some ([(.iconst 1, 85, 0), (.goto 4, 86, 90)], 89) := rfl
theorem l_Mo_checkMap_89 : q_bk B_Mo_checkMap 89 = some ([(.iconst 0, 89, 0)], 90) := rfl
theorem l_Mo_checkMap_90 : q_bk B_Mo_checkMap 90 = some ([(.invokevirtual 109, 90, 0), (.aload_n ⟨0, q_l04⟩, 93, 0), (.getfield 105, 94, 0), (.ifCond .eq 4, 97, 101), (.return_, 100, 0)], 101) := rfl
theorem l_Mo_checkMap_101 : q_bk B_Mo_checkMap 101 = some ([(.aload_n ⟨0, q_l04⟩, 101, 0), (.iconst 1, 102, 0), (.invokevirtual 192, 103, 0), (.ifCond .eq 15, 106, 121), (.aload_n ⟨0, q_l04⟩, 109, 0), (.aload_n ⟨0, q_l04⟩, 110, 0), (.iconst 1, 111, 0), (.invokevirtual 188, 112, 0), (.invokevirtual 196, 115, 0), (.goto 12, 118, 130)], 121) := rfl
theorem l_Mo_checkMap_121 : q_bk B_Mo_checkMap 121 = some ([(.aload_n ⟨0, q_l04⟩, 121, 0), (.aload_n ⟨0, q_l04⟩, 122, 0), (.iconst 0, 123, 0), (.invokevirtual 188, 124, 0), (.invokevirtual 200, 127, 0)], 130) := rfl
theorem l_Mo_checkMap_130 : q_bk B_Mo_checkMap 130 = some ([(.return_, 130, 0)], 131) := rfl
end
section
def b_Mo_hasMap_0 : List (Instr × Nat × Nat) × Nat := ([(.aload_n ⟨0, q_l04⟩, 0, 0), (.iload_n ⟨1, q_l14⟩, 1, 0), (.invokevirtual 188, 2, 0), (.lconst ⟨0, q_l02⟩, 5, 0), (.lcmp, 6, 0), (.ifCond .lt 7, 7, 14), (.iconst 1, 10, 0), (.goto 4, 11, 15)], 14)
def b_Mo_hasMap_14 : List (Instr × Nat × Nat) × Nat := ([(.iconst 0, 14, 0)], 15)
def b_Mo_hasMap_15 : List (Instr × Nat × Nat) × Nat := ([(.ireturn, 15, 0)], 16)
def B_Mo_hasMap : q_B := [(0, b_Mo_hasMap_0), (14, b_Mo_hasMap_14), (15, b_Mo_hasMap_15)]
theorem o_Mo_hasMap : q_okC M_Mo_hasMap B_Mo_hasMap = true := by decide +kernel
theorem u_Mo_hasMap : q_okM M_Mo_hasMap = true := by decide +kernel
theorem l_Mo_hasMap_0 : q_bk B_Mo_hasMap 0 = some ([(.aload_n ⟨0, q_l04⟩, 0, 0), (.iload_n ⟨1, q_l14⟩, 1, 0), (.invokevirtual 188, 2, 0), (.lconst ⟨0, q_l02⟩, 5, 0), (.lcmp, 6, 0), (.ifCond .lt 7, 7, 14), (.iconst 1, 10, 0), (.goto 4, 11, 15)], 14) := rfl
theorem l_Mo_hasMap_14 : q_bk B_Mo_hasMap 14 = some ([(.iconst 0, 14, 0)], 15) := rfl
theorem l_Mo_hasMap_15 : q_bk B_Mo_hasMap 15 = some ([(.ireturn, 15, 0)], 16) := rfl
def b_Mo_mapAt_0 : List (Instr × Nat × Nat) × Nat := ([(.ldc2_w 145, 0, 0), (.lstore_n ⟨2, q_l24⟩, 3, 0), (.aload_n ⟨0, q_l04⟩, 4, 0), (.iconst 0, 5, 0), (.ldc2_w 126, 6, 0), (.invokevirtual 161, 9, 0), (.istore 4, 12, 0), (.iload 4, 14, 0), (.iconst 1, 16, 0), (.isub, 17, 0), (.istore 5, 18, 0)], 20)
def b_Mo_mapAt_20 : List (Instr × Nat × Nat) × Nat := ([(.iload 5, 20, 0), (.ifCond .lt 85, 22, 107), (.ldc2_w 139, 25, 0), (.ldc2_w 151, 28, 0), (.iload 5, 31, 0), (.i2l, 33, 0), (.lmul, 34, 0), (.ladd, 35, 0), (.lstore 6, 36, 0), (.aload_n ⟨0, q_l04⟩, 38, 0), (.iconst 0, 39, 0), (.lload 6, 40, 0), (.invokevirtual 161, 42, 0), (.iconst 3, 45, 0), (.if_icmp .ne 31, 46, 77), (.aload_n ⟨0, q_l04⟩, 49, 0), (.iconst 0, 50, 0), (.lload 6, 51, 0), (.ldc2_w 126, 53, 0), (.ladd, 56, 0), (.invokevirtual 161, 57, 0), (.iload_n ⟨1, q_l14⟩, 60, 0), (.ifCond .eq 8, 61, 69), (.bipush 10, 64, 0), (.goto 4, 66, 70)], 69)
def b_Mo_mapAt_69 : List (Instr × Nat × Nat) × Nat := ([(.iconst 1, 69, 0)], 70)
def b_Mo_mapAt_70 : List (Instr × Nat × Nat) × Nat := ([(.if_icmp .ne 7, 70, 77), (.iconst 1, 73, 0), (.goto 4, 74, 78)], 77)
def b_Mo_mapAt_77 : List (Instr × Nat × Nat) × Nat := ([(.iconst 0, 77, 0)], 78)
def b_Mo_mapAt_78 : List (Instr × Nat × Nat) × Nat := ([(.istore 8, 78, 0), (.iload 8, 80, 0), (.ifCond .eq 17, 82, 99), (.aload_n ⟨0, q_l04⟩, 85, 0), (.iconst 0, 86, 0), (.lload 6, 87, 0), (.ldc2_w 139, 89, 0), (.ladd, 92, 0), (.invokevirtual 169, 93, 0), (.goto 4, 96, 100)], 99)
def b_Mo_mapAt_99 : List (Instr × Nat × Nat) × Nat := ([(.lload_n ⟨2, q_l24⟩, 99, 0)], 100)
def b_Mo_mapAt_100 : List (Instr × Nat × Nat) × Nat := ([(.lstore_n ⟨2, q_l24⟩, 100, 0), (.iinc 5 (-1), 101, 0), (.goto (-84), 104, 20)], 107)
def b_Mo_mapAt_107 : List (Instr × Nat × Nat) × Nat := ([(.lload_n ⟨2, q_l24⟩, 107, 0), (.lreturn, 108, 0)], 109)
def B_Mo_mapAt : q_B := [(0, b_Mo_mapAt_0), (20, b_Mo_mapAt_20), (69, b_Mo_mapAt_69), (70, b_Mo_mapAt_70), (77, b_Mo_mapAt_77), (78, b_Mo_mapAt_78), (99, b_Mo_mapAt_99), (100, b_Mo_mapAt_100), (107, b_Mo_mapAt_107)]
theorem o_Mo_mapAt : q_okC M_Mo_mapAt B_Mo_mapAt = true := by decide +kernel
theorem u_Mo_mapAt : q_okM M_Mo_mapAt = true := by decide +kernel
theorem l_Mo_mapAt_0 : q_bk B_Mo_mapAt 0 = some ([(.ldc2_w 145, 0, 0), (.lstore_n ⟨2, q_l24⟩, 3, 0), (.aload_n ⟨0, q_l04⟩, 4, 0), (.iconst 0, 5, 0), (.ldc2_w 126, 6, 0), (.invokevirtual 161, 9, 0), (.istore 4, 12, 0), (.iload 4, 14, 0), (.iconst 1, 16, 0), (.isub, 17, 0), (.istore 5, 18, 0)], 20) := rfl
theorem l_Mo_mapAt_20 : q_bk B_Mo_mapAt 20 = some ([(.iload 5, 20, 0), (.ifCond .lt 85, 22, 107), (.ldc2_w 139, 25, 0), (.ldc2_w 151, 28, 0), (.iload 5, 31, 0), (.i2l, 33, 0), (.lmul, 34, 0), (.ladd, 35, 0), (.lstore 6, 36, 0), (.aload_n ⟨0, q_l04⟩, 38, 0), (.iconst 0, 39, 0), (.lload 6, 40, 0), (.invokevirtual 161, 42, 0), (.iconst 3, 45, 0), (.if_icmp .ne 31, 46, 77), (.aload_n ⟨0, q_l04⟩, 49, 0), (.iconst 0, 50, 0), (.lload 6, 51, 0), (.ldc2_w 126, 53, 0), (.ladd, 56, 0), (.invokevirtual 161, 57, 0), (.iload_n ⟨1, q_l14⟩, 60, 0), (.ifCond .eq 8, 61, 69), (.bipush 10, 64, 0), (.goto 4, 66, 70)], 69) := rfl
theorem l_Mo_mapAt_69 : q_bk B_Mo_mapAt 69 = some ([(.iconst 1, 69, 0)], 70) := rfl
theorem l_Mo_mapAt_70 : q_bk B_Mo_mapAt 70 = some ([(.if_icmp .ne 7, 70, 77), (.iconst 1, 73, 0), (.goto 4, 74, 78)], 77) := rfl
theorem l_Mo_mapAt_77 : q_bk B_Mo_mapAt 77 = some ([(.iconst 0, 77, 0)], 78) := rfl
theorem l_Mo_mapAt_78 : q_bk B_Mo_mapAt 78 = some ([(.istore 8, 78, 0), (.iload 8, 80, 0), (.ifCond .eq 17, 82, 99), (.aload_n ⟨0, q_l04⟩, 85, 0), (.iconst 0, 86, 0), (.lload 6, 87, 0), (.ldc2_w 139, 89, 0), (.ladd, 92, 0), (.invokevirtual 169, 93, 0), (.goto 4, 96, 100)], 99) := rfl
theorem l_Mo_mapAt_99 : q_bk B_Mo_mapAt 99 = some ([(.lload_n ⟨2, q_l24⟩, 99, 0)], 100) := rfl
theorem l_Mo_mapAt_100 : q_bk B_Mo_mapAt 100 = some ([(.lstore_n ⟨2, q_l24⟩, 100, 0), (.iinc 5 (-1), 101, 0), (.goto (-84), 104, 20)], 107) := rfl
theorem l_Mo_mapAt_107 : q_bk B_Mo_mapAt 107 = some ([(.lload_n ⟨2, q_l24⟩, 107, 0), (.lreturn, 108, 0)], 109) := rfl
def b_Mo_checkGroups_0 : List (Instr × Nat × Nat) × Nat := ([(.aload_n ⟨0, q_l04⟩, 0, 0), (.aload_n ⟨0, q_l04⟩, 1, 0), (.iconst 0, 2, 0), (.lload_n ⟨1, q_l14⟩, 3, 0), (.invokevirtual 161, 4, 0), (.bipush 12, 7, 0), (.if_icmp .ne 7, 9, 16), (.iconst 1, 12, 0), (.goto 4, 13, 17)], 16)
def b_Mo_checkGroups_16 : List (Instr × Nat × Nat) × Nat := ([(.iconst 0, 16, 0)], 17)
def b_Mo_checkGroups_17 : List (Instr × Nat × Nat) × Nat := ([(.invokevirtual 109, 17, 0), (.aload_n ⟨0, q_l04⟩, 20, 0), (.iconst 0, 21, 0), (.lload_n ⟨1, q_l14⟩, 22, 0), (.ldc2_w 147, 23, 0), (.ladd, 26, 0), (.invokevirtual 169, 27, 0), (.lstore_n ⟨3, q_l34⟩, 30, 0), (.ldc2_w 145, 31, 0), (.lstore 5, 34, 0), (.lconst ⟨0, q_l02⟩, 36, 0), (.lstore 7, 37, 0)], 39)
def b_Mo_checkGroups_39 : List (Instr × Nat × Nat) × Nat := ([(.lload 7, 39, 0), (.lload_n ⟨3, q_l34⟩, 41, 0), (.lcmp, 42, 0), (.ifCond .ge 105, 43, 148), (.aload_n ⟨0, q_l04⟩, 46, 0), (.getfield 105, 47, 0), (.ifCond .ne 98, 50, 148), (.lload_n ⟨1, q_l14⟩, 53, 0), (.ldc2_w 149, 54, 0), (.ladd, 57, 0), (.ldc2_w 147, 58, 0), (.lload 7, 61, 0), (.lmul, 63, 0), (.ladd, 64, 0), (.lstore 9, 65, 0), (.aload_n ⟨0, q_l04⟩, 67, 0), (.iconst 0, 68, 0), (.lload 9, 69, 0), (.invokevirtual 169, 71, 0), (.lstore 11, 74, 0), (.aload_n ⟨0, q_l04⟩, 76, 0), (.iconst 0, 77, 0), (.lload 9, 78, 0), (.ldc2_w 139, 80, 0), (.ladd, 83, 0), (.invokevirtual 169, 84, 0), (.lstore 13, 87, 0), (.aload_n ⟨0, q_l04⟩, 89, 0), (.iconst 0, 90, 0), (.lload 9, 91, 0), (.ldc2_w 151, 93, 0), (.ladd, 96, 0), (.invokevirtual 169, 97, 0), (.pop2, 100, 0), (.aload_n ⟨0, q_l04⟩, 101, 0), (.lload 11, 102, 0), (.lload 5, 104, 0), (.lcmp, 106, 0), (.ifCond .le 24, 107, 131), (.lload 11, 110, 0), (.lload 13, 112, 0), (.lcmp, 114, 0), (.ifCond .gt 16, 115, 131), (.lload 13, 118, 0), (.ldc2_w 203, 120, 0), (.lcmp, 123, 0), (.ifCond .gt 7, 124, 131), (.iconst 1, 127, 0), (.goto 4, 128, 132)], 131)
def b_Mo_checkGroups_131 : List (Instr × Nat × Nat) × Nat := ([(.iconst 0, 131, 0)], 132)
def b_Mo_checkGroups_132 : List (Instr × Nat × Nat) × Nat := ([(.invokevirtual 109, 132, 0), (.lload 13, 135, 0), (.lstore 5, 137, 0), (.lload 7, 139, 0), (.lconst ⟨1, q_l12⟩, 141, 0), (.ladd, 142, 0), (.lstore 7, 143, 0), (.goto (-106), 145, 39)], 148)
def b_Mo_checkGroups_148 : List (Instr × Nat × Nat) × Nat := ([(.return_, 148, 0)], 149)
def B_Mo_checkGroups : q_B := [(0, b_Mo_checkGroups_0), (16, b_Mo_checkGroups_16), (17, b_Mo_checkGroups_17), (39, b_Mo_checkGroups_39), (131, b_Mo_checkGroups_131), (132, b_Mo_checkGroups_132), (148, b_Mo_checkGroups_148)]
theorem o_Mo_checkGroups : q_okC M_Mo_checkGroups B_Mo_checkGroups = true := by decide +kernel
theorem u_Mo_checkGroups : q_okM M_Mo_checkGroups = true := by decide +kernel
theorem l_Mo_checkGroups_0 : q_bk B_Mo_checkGroups 0 = some ([(.aload_n ⟨0, q_l04⟩, 0, 0), (.aload_n ⟨0, q_l04⟩, 1, 0), (.iconst 0, 2, 0), (.lload_n ⟨1, q_l14⟩, 3, 0), (.invokevirtual 161, 4, 0), (.bipush 12, 7, 0), (.if_icmp .ne 7, 9, 16), (.iconst 1, 12, 0), (.goto 4, 13, 17)], 16) := rfl
theorem l_Mo_checkGroups_16 : q_bk B_Mo_checkGroups 16 = some ([(.iconst 0, 16, 0)], 17) := rfl
theorem l_Mo_checkGroups_17 : q_bk B_Mo_checkGroups 17 = some ([(.invokevirtual 109, 17, 0), (.aload_n ⟨0, q_l04⟩, 20, 0), (.iconst 0, 21, 0), (.lload_n ⟨1, q_l14⟩, 22, 0), (.ldc2_w 147, 23, 0), (.ladd, 26, 0), (.invokevirtual 169, 27, 0), (.lstore_n ⟨3, q_l34⟩, 30, 0), (.ldc2_w 145, 31, 0), (.lstore 5, 34, 0), (.lconst ⟨0, q_l02⟩, 36, 0), (.lstore 7, 37, 0)], 39) := rfl
theorem l_Mo_checkGroups_39 : q_bk B_Mo_checkGroups 39 = some ([(.lload 7, 39, 0), (.lload_n ⟨3, q_l34⟩, 41, 0), (.lcmp, 42, 0), (.ifCond .ge 105, 43, 148), (.aload_n ⟨0, q_l04⟩, 46, 0), (.getfield 105, 47, 0), (.ifCond .ne 98, 50, 148), (.lload_n ⟨1, q_l14⟩, 53, 0), (.ldc2_w 149, 54, 0), (.ladd, 57, 0), (.ldc2_w 147, 58, 0), (.lload 7, 61, 0), (.lmul, 63, 0), (.ladd, 64, 0), (.lstore 9, 65, 0), (.aload_n ⟨0, q_l04⟩, 67, 0), (.iconst 0, 68, 0), (.lload 9, 69, 0), (.invokevirtual 169, 71, 0), (.lstore 11, 74, 0), (.aload_n ⟨0, q_l04⟩, 76, 0), (.iconst 0, 77, 0), (.lload 9, 78, 0), (.ldc2_w 139, 80, 0), (.ladd, 83, 0), (.invokevirtual 169, 84, 0), (.lstore 13, 87, 0), (.aload_n ⟨0, q_l04⟩, 89, 0), (.iconst 0, 90, 0), (.lload 9, 91, 0), (.ldc2_w 151, 93, 0), (.ladd, 96, 0), (.invokevirtual 169, 97, 0), (.pop2, 100, 0), (.aload_n ⟨0, q_l04⟩, 101, 0), (.lload 11, 102, 0), (.lload 5, 104, 0), (.lcmp, 106, 0), (.ifCond .le 24, 107, 131), (.lload 11, 110, 0), (.lload 13, 112, 0), (.lcmp, 114, 0), (.ifCond .gt 16, 115, 131), (.lload 13, 118, 0), (.ldc2_w 203, 120, 0), (.lcmp, 123, 0), (.ifCond .gt 7, 124, 131), (.iconst 1, 127, 0), (.goto 4, 128, 132)], 131) := rfl
theorem l_Mo_checkGroups_131 : q_bk B_Mo_checkGroups 131 = some ([(.iconst 0, 131, 0)], 132) := rfl
theorem l_Mo_checkGroups_132 : q_bk B_Mo_checkGroups 132 = some ([(.invokevirtual 109, 132, 0), (.lload 13, 135, 0), (.lstore 5, 137, 0), (.lload 7, 139, 0), (.lconst ⟨1, q_l12⟩, 141, 0), (.ladd, 142, 0), (.lstore 7, 143, 0), (.goto (-106), 145, 39)], 148) := rfl
theorem l_Mo_checkGroups_148 : q_bk B_Mo_checkGroups 148 = some ([(.return_, 148, 0)], 149) := rfl
def b_Mo_checkSegments_0 : List (Instr × Nat × Nat) × Nat := ([(.aload_n ⟨0, q_l04⟩, 0, 0), (.aload_n ⟨0, q_l04⟩, 1, 0), (.iconst 0, 2, 0), (.lload_n ⟨1, q_l14⟩, 3, 0), (.invokevirtual 161, 4, 0), (.iconst 4, 7, 0), (.if_icmp .ne 7, 8, 15), (.iconst 1, 11, 0), (.goto 4, 12, 16)], 15)
def b_Mo_checkSegments_15 : List (Instr × Nat × Nat) × Nat := ([(.iconst 0, 15, 0)], 16)
def b_Mo_checkSegments_16 : List (Instr × Nat × Nat) × Nat := ([(.invokevirtual 109, 16, 0), (.aload_n ⟨0, q_l04⟩, 19, 0), (.iconst 0, 20, 0), (.lload_n ⟨1, q_l14⟩, 21, 0), (.ldc2_w 205, 22, 0), (.ladd, 25, 0), (.invokevirtual 161, 26, 0), (.istore_n ⟨3, q_l34⟩, 29, 0), (.aload_n ⟨0, q_l04⟩, 30, 0), (.iload_n ⟨3, q_l34⟩, 31, 0), (.iconst 2, 32, 0), (.if_icmp .lt 13, 33, 46), (.iload_n ⟨3, q_l34⟩, 36, 0), (.iconst 2, 37, 0), (.irem, 38, 0), (.ifCond .ne 7, 39, 46), (.iconst 1, 42, 0), (.goto 4, 43, 47)], 46)
def b_Mo_checkSegments_46 : List (Instr × Nat × Nat) × Nat := ([(.iconst 0, 46, 0)], 47)
def b_Mo_checkSegments_47 : List (Instr × Nat × Nat) × Nat := ([(.invokevirtual 109, 47, 0), (.iconst (-1), 50, 0), (.istore 4, 51, 0), (.iconst 0, 53, 0), (.istore 5, 54, 0)], 56)
def b_Mo_checkSegments_56 : List (Instr × Nat × Nat) × Nat := ([(.iload 5, 56, 0), (.iload_n ⟨3, q_l34⟩, 58, 0), (.iconst 2, 59, 0), (.idiv, 60, 0), (.if_icmp .ge 138, 61, 199), (.aload_n ⟨0, q_l04⟩, 64, 0), (.getfield 105, 65, 0), (.ifCond .ne 131, 68, 199), (.aload_n ⟨0, q_l04⟩, 71, 0), (.iconst 0, 72, 0), (.lload_n ⟨1, q_l14⟩, 73, 0), (.ldc2_w 207, 74, 0), (.ladd, 77, 0), (.ldc2_w 126, 78, 0), (.iload 5, 81, 0), (.i2l, 83, 0), (.lmul, 84, 0), (.ladd, 85, 0), (.invokevirtual 161, 86, 0), (.istore 6, 89, 0), (.aload_n ⟨0, q_l04⟩, 91, 0), (.iconst 0, 92, 0), (.lload_n ⟨1, q_l14⟩, 93, 0), (.ldc2_w 149, 94, 0), (.ladd, 97, 0), (.iload_n ⟨3, q_l34⟩, 98, 0), (.i2l, 99, 0), (.ladd, 100, 0), (.ldc2_w 126, 101, 0), (.iload 5, 104, 0), (.i2l, 106, 0), (.lmul, 107, 0), (.ladd, 108, 0), (.invokevirtual 161, 109, 0), (.istore 7, 112, 0), (.aload_n ⟨0, q_l04⟩, 114, 0), (.iconst 0, 115, 0), (.lload_n ⟨1, q_l14⟩, 116, 0), (.ldc2_w 149, 117, 0), (.ladd, 120, 0), (.ldc2_w 126, 121, 0), (.iload_n ⟨3, q_l34⟩, 124, 0), (.i2l, 125, 0), (.lmul, 126, 0), (.ladd, 127, 0), (.ldc2_w 126, 128, 0), (.iload 5, 131, 0), (.i2l, 133, 0), (.lmul, 134, 0), (.ladd, 135, 0), (.invokevirtual 161, 136, 0), (.pop, 139, 0), (.aload_n ⟨0, q_l04⟩, 140, 0), (.iconst 0, 141, 0), (.lload_n ⟨1, q_l14⟩, 142, 0), (.ldc2_w 149, 143, 0), (.ladd, 146, 0), (.ldc2_w 209, 147, 0), (.iload_n ⟨3, q_l34⟩, 150, 0), (.i2l, 151, 0), (.lmul, 152, 0), (.ladd, 153, 0), (.ldc2_w 126, 154, 0), (.iload 5, 157, 0), (.i2l, 159, 0), (.lmul, 160, 0), (.ladd, 161, 0), (.invokevirtual 161, 162, 0), (.pop, 165, 0), (.aload_n ⟨0, q_l04⟩, 166, 0), (.iload 6, 167, 0), (.iload 4, 169, 0), (.if_icmp .le 14, 171, 185), (.iload 7, 174, 0), (.iload 6, 176, 0), (.if_icmp .gt 7, 178, 185), (.iconst 1, 181, 0), (.goto 4, 182, 186)], 185)
def b_Mo_checkSegments_185 : List (Instr × Nat × Nat) × Nat := ([(.iconst 0, 185, 0)], 186)
def b_Mo_checkSegments_186 : List (Instr × Nat × Nat) × Nat := ([(.invokevirtual 109, 186, 0), (.iload 6, 189, 0), (.istore 4, 191, 0), (.iinc 5 1, 193, 0), (.goto (-140), 196, 56)], 199)
def b_Mo_checkSegments_199 : List (Instr × Nat × Nat) × Nat := ([(.aload_n ⟨0, q_l04⟩, 199, 0), (.iload 4, 200, 0), (.ldc 211, 202, 0), (.if_icmp .ne 7, 204, 211), (.iconst 1, 207, 0), (.goto 4, 208, 212)], 211)
def b_Mo_checkSegments_211 : List (Instr × Nat × Nat) × Nat := ([(.iconst 0, 211, 0)], 212)
def b_Mo_checkSegments_212 : List (Instr × Nat × Nat) × Nat := ([(.invokevirtual 109, 212, 0), (.return_, 215, 0)], 216)
def B_Mo_checkSegments : q_B := [(0, b_Mo_checkSegments_0), (15, b_Mo_checkSegments_15), (16, b_Mo_checkSegments_16), (46, b_Mo_checkSegments_46), (47, b_Mo_checkSegments_47), (56, b_Mo_checkSegments_56), (185, b_Mo_checkSegments_185), (186, b_Mo_checkSegments_186), (199, b_Mo_checkSegments_199), (211, b_Mo_checkSegments_211), (212, b_Mo_checkSegments_212)]
theorem o_Mo_checkSegments : q_okC M_Mo_checkSegments B_Mo_checkSegments = true := by decide +kernel
theorem u_Mo_checkSegments : q_okM M_Mo_checkSegments = true := by decide +kernel
theorem l_Mo_checkSegments_0 : q_bk B_Mo_checkSegments 0 = some ([(.aload_n ⟨0, q_l04⟩, 0, 0), (.aload_n ⟨0, q_l04⟩, 1, 0), (.iconst 0, 2, 0), (.lload_n ⟨1, q_l14⟩, 3, 0), (.invokevirtual 161, 4, 0), (.iconst 4, 7, 0), (.if_icmp .ne 7, 8, 15), (.iconst 1, 11, 0), (.goto 4, 12, 16)], 15) := rfl
theorem l_Mo_checkSegments_15 : q_bk B_Mo_checkSegments 15 = some ([(.iconst 0, 15, 0)], 16) := rfl
theorem l_Mo_checkSegments_16 : q_bk B_Mo_checkSegments 16 = some ([(.invokevirtual 109, 16, 0), (.aload_n ⟨0, q_l04⟩, 19, 0), (.iconst 0, 20, 0), (.lload_n ⟨1, q_l14⟩, 21, 0), (.ldc2_w 205, 22, 0), (.ladd, 25, 0), (.invokevirtual 161, 26, 0), (.istore_n ⟨3, q_l34⟩, 29, 0), (.aload_n ⟨0, q_l04⟩, 30, 0), (.iload_n ⟨3, q_l34⟩, 31, 0), (.iconst 2, 32, 0), (.if_icmp .lt 13, 33, 46), (.iload_n ⟨3, q_l34⟩, 36, 0), (.iconst 2, 37, 0), (.irem, 38, 0), (.ifCond .ne 7, 39, 46), (.iconst 1, 42, 0), (.goto 4, 43, 47)], 46) := rfl
theorem l_Mo_checkSegments_46 : q_bk B_Mo_checkSegments 46 = some ([(.iconst 0, 46, 0)], 47) := rfl
theorem l_Mo_checkSegments_47 : q_bk B_Mo_checkSegments 47 = some ([(.invokevirtual 109, 47, 0), (.iconst (-1), 50, 0), (.istore 4, 51, 0), (.iconst 0, 53, 0), (.istore 5, 54, 0)], 56) := rfl
theorem l_Mo_checkSegments_56 : q_bk B_Mo_checkSegments 56 = some ([(.iload 5, 56, 0), (.iload_n ⟨3, q_l34⟩, 58, 0), (.iconst 2, 59, 0), (.idiv, 60, 0), (.if_icmp .ge 138, 61, 199), (.aload_n ⟨0, q_l04⟩, 64, 0), (.getfield 105, 65, 0), (.ifCond .ne 131, 68, 199), (.aload_n ⟨0, q_l04⟩, 71, 0), (.iconst 0, 72, 0), (.lload_n ⟨1, q_l14⟩, 73, 0), (.ldc2_w 207, 74, 0), (.ladd, 77, 0), (.ldc2_w 126, 78, 0), (.iload 5, 81, 0), (.i2l, 83, 0), (.lmul, 84, 0), (.ladd, 85, 0), (.invokevirtual 161, 86, 0), (.istore 6, 89, 0), (.aload_n ⟨0, q_l04⟩, 91, 0), (.iconst 0, 92, 0), (.lload_n ⟨1, q_l14⟩, 93, 0), (.ldc2_w 149, 94, 0), (.ladd, 97, 0), (.iload_n ⟨3, q_l34⟩, 98, 0), (.i2l, 99, 0), (.ladd, 100, 0), (.ldc2_w 126, 101, 0), (.iload 5, 104, 0), (.i2l, 106, 0), (.lmul, 107, 0), (.ladd, 108, 0), (.invokevirtual 161, 109, 0), (.istore 7, 112, 0), (.aload_n ⟨0, q_l04⟩, 114, 0), (.iconst 0, 115, 0), (.lload_n ⟨1, q_l14⟩, 116, 0), (.ldc2_w 149, 117, 0), (.ladd, 120, 0), (.ldc2_w 126, 121, 0), (.iload_n ⟨3, q_l34⟩, 124, 0), (.i2l, 125, 0), (.lmul, 126, 0), (.ladd, 127, 0), (.ldc2_w 126, 128, 0), (.iload 5, 131, 0), (.i2l, 133, 0), (.lmul, 134, 0), (.ladd, 135, 0), (.invokevirtual 161, 136, 0), (.pop, 139, 0), (.aload_n ⟨0, q_l04⟩, 140, 0), (.iconst 0, 141, 0), (.lload_n ⟨1, q_l14⟩, 142, 0), (.ldc2_w 149, 143, 0), (.ladd, 146, 0), (.ldc2_w 209, 147, 0), (.iload_n ⟨3, q_l34⟩, 150, 0), (.i2l, 151, 0), (.lmul, 152, 0), (.ladd, 153, 0), (.ldc2_w 126, 154, 0), (.iload 5, 157, 0), (.i2l, 159, 0), (.lmul, 160, 0), (.ladd, 161, 0), (.invokevirtual 161, 162, 0), (.pop, 165, 0), (.aload_n ⟨0, q_l04⟩, 166, 0), (.iload 6, 167, 0), (.iload 4, 169, 0), (.if_icmp .le 14, 171, 185), (.iload 7, 174, 0), (.iload 6, 176, 0), (.if_icmp .gt 7, 178, 185), (.iconst 1, 181, 0), (.goto 4, 182, 186)], 185) := rfl
theorem l_Mo_checkSegments_185 : q_bk B_Mo_checkSegments 185 = some ([(.iconst 0, 185, 0)], 186) := rfl
theorem l_Mo_checkSegments_186 : q_bk B_Mo_checkSegments 186 = some ([(.invokevirtual 109, 186, 0), (.iload 6, 189, 0), (.istore 4, 191, 0), (.iinc 5 1, 193, 0), (.goto (-140), 196, 56)], 199) := rfl
theorem l_Mo_checkSegments_199 : q_bk B_Mo_checkSegments 199 = some ([(.aload_n ⟨0, q_l04⟩, 199, 0), (.iload 4, 200, 0), (.ldc 211, 202, 0), (.if_icmp .ne 7, 204, 211), (.iconst 1, 207, 0), (.goto 4, 208, 212)], 211) := rfl
theorem l_Mo_checkSegments_211 : q_bk B_Mo_checkSegments 211 = some ([(.iconst 0, 211, 0)], 212) := rfl
theorem l_Mo_checkSegments_212 : q_bk B_Mo_checkSegments 212 = some ([(.invokevirtual 109, 212, 0), (.return_, 215, 0)], 216) := rfl
def b_Mo_checkGlyphs_0 : List (Instr × Nat × Nat) × Nat := ([(.aload_n ⟨0, q_l04⟩, 0, 0), (.invokevirtual 175, 1, 0), (.istore_n ⟨1, q_l14⟩, 4, 0), (.iconst 0, 5, 0), (.istore_n ⟨2, q_l24⟩, 6, 0)], 7)
def b_Mo_checkGlyphs_7 : List (Instr × Nat × Nat) × Nat := ([(.iload_n ⟨2, q_l24⟩, 7, 0), (.iload_n ⟨1, q_l14⟩, 8, 0), (.if_icmp .ge 21, 9, 30), (.aload_n ⟨0, q_l04⟩, 12, 0), (.getfield 105, 13, 0), (.ifCond .ne 14, 16, 30), (.aload_n ⟨0, q_l04⟩, 19, 0), (.iload_n ⟨2, q_l24⟩, 20, 0), (.invokevirtual 212, 21, 0), (.iinc 2 1, 24, 0), (.goto (-20), 27, 7)], 30)
def b_Mo_checkGlyphs_30 : List (Instr × Nat × Nat) × Nat := ([(.return_, 30, 0)], 31)
def B_Mo_checkGlyphs : q_B := [(0, b_Mo_checkGlyphs_0), (7, b_Mo_checkGlyphs_7), (30, b_Mo_checkGlyphs_30)]
theorem o_Mo_checkGlyphs : q_okC M_Mo_checkGlyphs B_Mo_checkGlyphs = true := by decide +kernel
theorem u_Mo_checkGlyphs : q_okM M_Mo_checkGlyphs = true := by decide +kernel
theorem l_Mo_checkGlyphs_0 : q_bk B_Mo_checkGlyphs 0 = some ([(.aload_n ⟨0, q_l04⟩, 0, 0), (.invokevirtual 175, 1, 0), (.istore_n ⟨1, q_l14⟩, 4, 0), (.iconst 0, 5, 0), (.istore_n ⟨2, q_l24⟩, 6, 0)], 7) := rfl
theorem l_Mo_checkGlyphs_7 : q_bk B_Mo_checkGlyphs 7 = some ([(.iload_n ⟨2, q_l24⟩, 7, 0), (.iload_n ⟨1, q_l14⟩, 8, 0), (.if_icmp .ge 21, 9, 30), (.aload_n ⟨0, q_l04⟩, 12, 0), (.getfield 105, 13, 0), (.ifCond .ne 14, 16, 30), (.aload_n ⟨0, q_l04⟩, 19, 0), (.iload_n ⟨2, q_l24⟩, 20, 0), (.invokevirtual 212, 21, 0), (.iinc 2 1, 24, 0), (.goto (-20), 27, 7)], 30) := rfl
theorem l_Mo_checkGlyphs_30 : q_bk B_Mo_checkGlyphs 30 = some ([(.return_, 30, 0)], 31) := rfl
def b_Mo_readGlyph_0 : List (Instr × Nat × Nat) × Nat := ([(.aload_n ⟨0, q_l04⟩, 0, 0), (.iconst 0, 1, 0), (.putfield 247, 2, 0), (.aload_n ⟨0, q_l04⟩, 5, 0), (.iconst (-1), 6, 0), (.putfield 250, 7, 0), (.iconst 0, 10, 0), (.istore_n ⟨2, q_l24⟩, 11, 0), (.aload_n ⟨0, q_l04⟩, 12, 0), (.iload_n ⟨1, q_l14⟩, 13, 0), (.iconst 0, 14, 0), (.invokevirtual 253, 15, 0)], 18)
def b_Mo_readGlyph_18 : List (Instr × Nat × Nat) × Nat := ([(.iload_n ⟨2, q_l24⟩, 18, 0), (.ifCond .lt 73, 19, 92), (.aload_n ⟨0, q_l04⟩, 22, 0), (.getfield 105, 23, 0), (.ifCond .ne 66, 26, 92), (.aload_n ⟨0, q_l04⟩, 29, 0), (.getfield 59, 30, 0), (.iload_n ⟨2, q_l24⟩, 33, 0), (.baload, 34, 0), (.ifCond .eq 42, 35, 77), (.aload_n ⟨0, q_l04⟩, 38, 0), (.iload_n ⟨2, q_l24⟩, 39, 0), (.invokevirtual 257, 40, 0), (.istore_n ⟨3, q_l34⟩, 43, 0), (.aload_n ⟨0, q_l04⟩, 44, 0), (.iload_n ⟨2, q_l24⟩, 45, 0), (.iconst 5, 46, 0), (.if_icmp .ge 7, 47, 54), (.iconst 1, 50, 0), (.goto 4, 51, 55)], 54)
def b_Mo_readGlyph_54 : List (Instr × Nat × Nat) × Nat := ([(.iconst 0, 54, 0)], 55)
def b_Mo_readGlyph_55 : List (Instr × Nat × Nat) × Nat := ([(.invokevirtual 109, 55, 0), (.aload_n ⟨0, q_l04⟩, 58, 0), (.getfield 105, 59, 0), (.ifCond .ne 12, 62, 74), (.iinc 2 1, 65, 0), (.aload_n ⟨0, q_l04⟩, 68, 0), (.iload_n ⟨3, q_l34⟩, 69, 0), (.iload_n ⟨2, q_l24⟩, 70, 0), (.invokevirtual 253, 71, 0)], 74)
def b_Mo_readGlyph_74 : List (Instr × Nat × Nat) × Nat := ([(.goto (-56), 74, 18)], 77)
def b_Mo_readGlyph_77 : List (Instr × Nat × Nat) × Nat := ([(.iinc 2 (-1), 77, 0), (.iload_n ⟨2, q_l24⟩, 80, 0), (.ifCond .lt (-63), 81, 18), (.aload_n ⟨0, q_l04⟩, 84, 0), (.iload_n ⟨2, q_l24⟩, 85, 0), (.invokevirtual 260, 86, 0), (.goto (-71), 89, 18)], 92)
def b_Mo_readGlyph_92 : List (Instr × Nat × Nat) × Nat := ([(.return_, 92, 0)], 93)
def B_Mo_readGlyph : q_B := [(0, b_Mo_readGlyph_0), (18, b_Mo_readGlyph_18), (54, b_Mo_readGlyph_54), (55, b_Mo_readGlyph_55), (74, b_Mo_readGlyph_74), (77, b_Mo_readGlyph_77), (92, b_Mo_readGlyph_92)]
theorem o_Mo_readGlyph : q_okC M_Mo_readGlyph B_Mo_readGlyph = true := by decide +kernel
theorem u_Mo_readGlyph : q_okM M_Mo_readGlyph = true := by decide +kernel
theorem l_Mo_readGlyph_0 : q_bk B_Mo_readGlyph 0 = some ([(.aload_n ⟨0, q_l04⟩, 0, 0), (.iconst 0, 1, 0), (.putfield 247, 2, 0), (.aload_n ⟨0, q_l04⟩, 5, 0), (.iconst (-1), 6, 0), (.putfield 250, 7, 0), (.iconst 0, 10, 0), (.istore_n ⟨2, q_l24⟩, 11, 0), (.aload_n ⟨0, q_l04⟩, 12, 0), (.iload_n ⟨1, q_l14⟩, 13, 0), (.iconst 0, 14, 0), (.invokevirtual 253, 15, 0)], 18) := rfl
theorem l_Mo_readGlyph_18 : q_bk B_Mo_readGlyph 18 = some ([(.iload_n ⟨2, q_l24⟩, 18, 0), (.ifCond .lt 73, 19, 92), (.aload_n ⟨0, q_l04⟩, 22, 0), (.getfield 105, 23, 0), (.ifCond .ne 66, 26, 92), (.aload_n ⟨0, q_l04⟩, 29, 0), (.getfield 59, 30, 0), (.iload_n ⟨2, q_l24⟩, 33, 0), (.baload, 34, 0), (.ifCond .eq 42, 35, 77), (.aload_n ⟨0, q_l04⟩, 38, 0), (.iload_n ⟨2, q_l24⟩, 39, 0), (.invokevirtual 257, 40, 0), (.istore_n ⟨3, q_l34⟩, 43, 0), (.aload_n ⟨0, q_l04⟩, 44, 0), (.iload_n ⟨2, q_l24⟩, 45, 0), (.iconst 5, 46, 0), (.if_icmp .ge 7, 47, 54), (.iconst 1, 50, 0), (.goto 4, 51, 55)], 54) := rfl
theorem l_Mo_readGlyph_54 : q_bk B_Mo_readGlyph 54 = some ([(.iconst 0, 54, 0)], 55) := rfl
theorem l_Mo_readGlyph_55 : q_bk B_Mo_readGlyph 55 = some ([(.invokevirtual 109, 55, 0), (.aload_n ⟨0, q_l04⟩, 58, 0), (.getfield 105, 59, 0), (.ifCond .ne 12, 62, 74), (.iinc 2 1, 65, 0), (.aload_n ⟨0, q_l04⟩, 68, 0), (.iload_n ⟨3, q_l34⟩, 69, 0), (.iload_n ⟨2, q_l24⟩, 70, 0), (.invokevirtual 253, 71, 0)], 74) := rfl
theorem l_Mo_readGlyph_74 : q_bk B_Mo_readGlyph 74 = some ([(.goto (-56), 74, 18)], 77) := rfl
theorem l_Mo_readGlyph_77 : q_bk B_Mo_readGlyph 77 = some ([(.iinc 2 (-1), 77, 0), (.iload_n ⟨2, q_l24⟩, 80, 0), (.ifCond .lt (-63), 81, 18), (.aload_n ⟨0, q_l04⟩, 84, 0), (.iload_n ⟨2, q_l24⟩, 85, 0), (.invokevirtual 260, 86, 0), (.goto (-71), 89, 18)], 92) := rfl
theorem l_Mo_readGlyph_92 : q_bk B_Mo_readGlyph 92 = some ([(.return_, 92, 0)], 93) := rfl
def b_Mo_begin_0 : List (Instr × Nat × Nat) × Nat := ([(.aload_n ⟨0, q_l04⟩, 0, 0), (.getfield 41, 1, 0), (.iload_n ⟨2, q_l24⟩, 4, 0), (.iconst 0, 5, 0), (.iastore, 6, 0), (.aload_n ⟨0, q_l04⟩, 7, 0), (.getfield 44, 8, 0), (.iload_n ⟨2, q_l24⟩, 11, 0), (.iconst 0, 12, 0), (.iastore, 13, 0), (.aload_n ⟨0, q_l04⟩, 14, 0), (.getfield 59, 15, 0), (.iload_n ⟨2, q_l24⟩, 18, 0), (.iconst 0, 19, 0), (.bastore, 20, 0), (.aload_n ⟨0, q_l04⟩, 21, 0), (.getfield 47, 22, 0), (.iload_n ⟨2, q_l24⟩, 25, 0), (.iconst 0, 26, 0), (.iastore, 27, 0), (.aload_n ⟨0, q_l04⟩, 28, 0), (.iload_n ⟨1, q_l14⟩, 29, 0), (.invokevirtual 181, 30, 0), (.lstore_n ⟨3, q_l34⟩, 33, 0), (.aload_n ⟨0, q_l04⟩, 34, 0), (.iload_n ⟨1, q_l14⟩, 35, 0), (.iconst 1, 36, 0), (.iadd, 37, 0), (.invokevirtual 181, 38, 0), (.lload_n ⟨3, q_l34⟩, 41, 0), (.lsub, 42, 0), (.l2i, 43, 0), (.istore 5, 44, 0), (.iload 5, 46, 0), (.ifCond .ne 4, 48, 52), (.return_, 51, 0)], 52)
def b_Mo_begin_52 : List (Instr × Nat × Nat) × Nat := ([(.aload_n ⟨0, q_l04⟩, 52, 0), (.iconst 1, 53, 0), (.invokevirtual 128, 54, 0), (.lload_n ⟨3, q_l34⟩, 57, 0), (.l2i, 58, 0), (.iadd, 59, 0), (.istore 6, 60, 0), (.aload_n ⟨0, q_l04⟩, 62, 0), (.iload 6, 63, 0), (.iload 5, 65, 0), (.i2l, 67, 0), (.lconst ⟨0, q_l02⟩, 68, 0), (.invokevirtual 263, 69, 0), (.istore 7, 72, 0), (.aload_n ⟨0, q_l04⟩, 74, 0), (.iload 7, 75, 0), (.iconst (-1), 77, 0), (.if_icmp .lt 14, 78, 92), (.iload 7, 81, 0), (.bipush 32, 83, 0), (.if_icmp .gt 7, 85, 92), (.iconst 1, 88, 0), (.goto 4, 89, 93)], 92)
def b_Mo_begin_92 : List (Instr × Nat × Nat) × Nat := ([(.iconst 0, 92, 0)], 93)
def b_Mo_begin_93 : List (Instr × Nat × Nat) × Nat := ([(.invokevirtual 109, 93, 0), (.aload_n ⟨0, q_l04⟩, 96, 0), (.getfield 105, 97, 0), (.ifCond .eq 4, 100, 104), (.return_, 103, 0)], 104)
def b_Mo_begin_104 : List (Instr × Nat × Nat) × Nat := ([(.aload_n ⟨0, q_l04⟩, 104, 0), (.getfield 56, 105, 0), (.iload_n ⟨2, q_l24⟩, 108, 0), (.iload 5, 109, 0), (.iastore, 111, 0), (.aload_n ⟨0, q_l04⟩, 112, 0), (.getfield 53, 113, 0), (.iload_n ⟨2, q_l24⟩, 116, 0), (.iload 6, 117, 0), (.iastore, 119, 0), (.iload 7, 120, 0), (.ifCond .lt 17, 122, 139), (.aload_n ⟨0, q_l04⟩, 125, 0), (.iload 6, 126, 0), (.iload 5, 128, 0), (.iload 7, 130, 0), (.iload_n ⟨2, q_l24⟩, 132, 0), (.invokevirtual 266, 133, 0), (.goto 18, 136, 154)], 139)
def b_Mo_begin_139 : List (Instr × Nat × Nat) × Nat := ([(.aload_n ⟨0, q_l04⟩, 139, 0), (.getfield 59, 140, 0), (.iload_n ⟨2, q_l24⟩, 143, 0), (.iconst 1, 144, 0), (.bastore, 145, 0), (.aload_n ⟨0, q_l04⟩, 146, 0), (.getfield 50, 147, 0), (.iload_n ⟨2, q_l24⟩, 150, 0), (.bipush 10, 151, 0), (.iastore, 153, 0)], 154)
def b_Mo_begin_154 : List (Instr × Nat × Nat) × Nat := ([(.return_, 154, 0)], 155)
def B_Mo_begin : q_B := [(0, b_Mo_begin_0), (52, b_Mo_begin_52), (92, b_Mo_begin_92), (93, b_Mo_begin_93), (104, b_Mo_begin_104), (139, b_Mo_begin_139), (154, b_Mo_begin_154)]
theorem o_Mo_begin : q_okC M_Mo_begin B_Mo_begin = true := by decide +kernel
theorem u_Mo_begin : q_okM M_Mo_begin = true := by decide +kernel
theorem l_Mo_begin_0 : q_bk B_Mo_begin 0 = some ([(.aload_n ⟨0, q_l04⟩, 0, 0), (.getfield 41, 1, 0), (.iload_n ⟨2, q_l24⟩, 4, 0), (.iconst 0, 5, 0), (.iastore, 6, 0), (.aload_n ⟨0, q_l04⟩, 7, 0), (.getfield 44, 8, 0), (.iload_n ⟨2, q_l24⟩, 11, 0), (.iconst 0, 12, 0), (.iastore, 13, 0), (.aload_n ⟨0, q_l04⟩, 14, 0), (.getfield 59, 15, 0), (.iload_n ⟨2, q_l24⟩, 18, 0), (.iconst 0, 19, 0), (.bastore, 20, 0), (.aload_n ⟨0, q_l04⟩, 21, 0), (.getfield 47, 22, 0), (.iload_n ⟨2, q_l24⟩, 25, 0), (.iconst 0, 26, 0), (.iastore, 27, 0), (.aload_n ⟨0, q_l04⟩, 28, 0), (.iload_n ⟨1, q_l14⟩, 29, 0), (.invokevirtual 181, 30, 0), (.lstore_n ⟨3, q_l34⟩, 33, 0), (.aload_n ⟨0, q_l04⟩, 34, 0), (.iload_n ⟨1, q_l14⟩, 35, 0), (.iconst 1, 36, 0), (.iadd, 37, 0), (.invokevirtual 181, 38, 0), (.lload_n ⟨3, q_l34⟩, 41, 0), (.lsub, 42, 0), (.l2i, 43, 0), (.istore 5, 44, 0), (.iload 5, 46, 0), (.ifCond .ne 4, 48, 52), (.return_, 51, 0)], 52) := rfl
theorem l_Mo_begin_52 : q_bk B_Mo_begin 52 = some ([(.aload_n ⟨0, q_l04⟩, 52, 0), (.iconst 1, 53, 0), (.invokevirtual 128, 54, 0), (.lload_n ⟨3, q_l34⟩, 57, 0), (.l2i, 58, 0), (.iadd, 59, 0), (.istore 6, 60, 0), (.aload_n ⟨0, q_l04⟩, 62, 0), (.iload 6, 63, 0), (.iload 5, 65, 0), (.i2l, 67, 0), (.lconst ⟨0, q_l02⟩, 68, 0), (.invokevirtual 263, 69, 0), (.istore 7, 72, 0), (.aload_n ⟨0, q_l04⟩, 74, 0), (.iload 7, 75, 0), (.iconst (-1), 77, 0), (.if_icmp .lt 14, 78, 92), (.iload 7, 81, 0), (.bipush 32, 83, 0), (.if_icmp .gt 7, 85, 92), (.iconst 1, 88, 0), (.goto 4, 89, 93)], 92) := rfl
theorem l_Mo_begin_92 : q_bk B_Mo_begin 92 = some ([(.iconst 0, 92, 0)], 93) := rfl
theorem l_Mo_begin_93 : q_bk B_Mo_begin 93 = some ([(.invokevirtual 109, 93, 0), (.aload_n ⟨0, q_l04⟩, 96, 0), (.getfield 105, 97, 0), (.ifCond .eq 4, 100, 104), (.return_, 103, 0)], 104) := rfl
theorem l_Mo_begin_104 : q_bk B_Mo_begin 104 = some ([(.aload_n ⟨0, q_l04⟩, 104, 0), (.getfield 56, 105, 0), (.iload_n ⟨2, q_l24⟩, 108, 0), (.iload 5, 109, 0), (.iastore, 111, 0), (.aload_n ⟨0, q_l04⟩, 112, 0), (.getfield 53, 113, 0), (.iload_n ⟨2, q_l24⟩, 116, 0), (.iload 6, 117, 0), (.iastore, 119, 0), (.iload 7, 120, 0), (.ifCond .lt 17, 122, 139), (.aload_n ⟨0, q_l04⟩, 125, 0), (.iload 6, 126, 0), (.iload 5, 128, 0), (.iload 7, 130, 0), (.iload_n ⟨2, q_l24⟩, 132, 0), (.invokevirtual 266, 133, 0), (.goto 18, 136, 154)], 139) := rfl
theorem l_Mo_begin_139 : q_bk B_Mo_begin 139 = some ([(.aload_n ⟨0, q_l04⟩, 139, 0), (.getfield 59, 140, 0), (.iload_n ⟨2, q_l24⟩, 143, 0), (.iconst 1, 144, 0), (.bastore, 145, 0), (.aload_n ⟨0, q_l04⟩, 146, 0), (.getfield 50, 147, 0), (.iload_n ⟨2, q_l24⟩, 150, 0), (.bipush 10, 151, 0), (.iastore, 153, 0)], 154) := rfl
theorem l_Mo_begin_154 : q_bk B_Mo_begin 154 = some ([(.return_, 154, 0)], 155) := rfl
def b_Mo_s16_0 : List (Instr × Nat × Nat) × Nat := ([(.aload_n ⟨0, q_l04⟩, 0, 0), (.iload_n ⟨1, q_l14⟩, 1, 0), (.lload_n ⟨2, q_l24⟩, 2, 0), (.lload 4, 3, 0), (.invokevirtual 120, 5, 0), (.istore 6, 8, 0), (.iload 6, 10, 0), (.sipush 32767, 12, 0), (.if_icmp .le 11, 15, 26), (.iload 6, 18, 0), (.ldc 123, 20, 0), (.isub, 22, 0), (.goto 5, 23, 28)], 26)
def b_Mo_s16_26 : List (Instr × Nat × Nat) × Nat := ([(.iload 6, 26, 0)], 28)
def b_Mo_s16_28 : List (Instr × Nat × Nat) × Nat := ([(.ireturn, 28, 0)], 29)
def B_Mo_s16 : q_B := [(0, b_Mo_s16_0), (26, b_Mo_s16_26), (28, b_Mo_s16_28)]
theorem o_Mo_s16 : q_okC M_Mo_s16 B_Mo_s16 = true := by decide +kernel
theorem u_Mo_s16 : q_okM M_Mo_s16 = true := by decide +kernel
theorem l_Mo_s16_0 : q_bk B_Mo_s16 0 = some ([(.aload_n ⟨0, q_l04⟩, 0, 0), (.iload_n ⟨1, q_l14⟩, 1, 0), (.lload_n ⟨2, q_l24⟩, 2, 0), (.lload 4, 3, 0), (.invokevirtual 120, 5, 0), (.istore 6, 8, 0), (.iload 6, 10, 0), (.sipush 32767, 12, 0), (.if_icmp .le 11, 15, 26), (.iload 6, 18, 0), (.ldc 123, 20, 0), (.isub, 22, 0), (.goto 5, 23, 28)], 26) := rfl
theorem l_Mo_s16_26 : q_bk B_Mo_s16 26 = some ([(.iload 6, 26, 0)], 28) := rfl
theorem l_Mo_s16_28 : q_bk B_Mo_s16 28 = some ([(.ireturn, 28, 0)], 29) := rfl
def b_Mo_readSimple_0 : List (Instr × Nat × Nat) × Nat := ([(.iconst (-1), 0, 0), (.istore 5, 1, 0), (.iconst 0, 3, 0), (.istore 6, 4, 0)], 6)
def b_Mo_readSimple_6 : List (Instr × Nat × Nat) × Nat := ([(.iload 6, 6, 0), (.iload_n ⟨3, q_l34⟩, 8, 0), (.if_icmp .ge 106, 9, 115), (.aload_n ⟨0, q_l04⟩, 12, 0), (.getfield 105, 13, 0), (.ifCond .ne 99, 16, 115), (.aload_n ⟨0, q_l04⟩, 19, 0), (.iload_n ⟨1, q_l14⟩, 20, 0), (.iload_n ⟨2, q_l24⟩, 21, 0), (.i2l, 22, 0), (.ldc2_w 270, 23, 0), (.ldc2_w 126, 26, 0), (.iload 6, 29, 0), (.i2l, 31, 0), (.lmul, 32, 0), (.ladd, 33, 0), (.invokevirtual 120, 34, 0), (.istore 7, 37, 0), (.aload_n ⟨0, q_l04⟩, 39, 0), (.iload 7, 40, 0), (.iload 5, 42, 0), (.if_icmp .le 15, 44, 59), (.iload 7, 47, 0), (.sipush 256, 49, 0), (.if_icmp .ge 7, 52, 59), (.iconst 1, 55, 0), (.goto 4, 56, 60)], 59)
def b_Mo_readSimple_59 : List (Instr × Nat × Nat) × Nat := ([(.iconst 0, 59, 0)], 60)
def b_Mo_readSimple_60 : List (Instr × Nat × Nat) × Nat := ([(.invokevirtual 109, 60, 0), (.iload 5, 63, 0), (.iconst 1, 65, 0), (.iadd, 66, 0), (.istore 8, 67, 0)], 69)
def b_Mo_readSimple_69 : List (Instr × Nat × Nat) × Nat := ([(.iload 8, 69, 0), (.iload 7, 71, 0), (.if_icmp .gt 32, 73, 105), (.aload_n ⟨0, q_l04⟩, 76, 0), (.getfield 105, 77, 0), (.ifCond .ne 25, 80, 105), (.aload_n ⟨0, q_l04⟩, 83, 0), (.getfield 35, 84, 0), (.sipush 512, 87, 0), (.iload 4, 90, 0), (.imul, 92, 0), (.iload 8, 93, 0), (.iadd, 95, 0), (.iload 6, 96, 0), (.iastore, 98, 0), (.iinc 8 1, 99, 0), (.goto (-33), 102, 69)], 105)
def b_Mo_readSimple_105 : List (Instr × Nat × Nat) × Nat := ([(.iload 7, 105, 0), (.istore 5, 107, 0), (.iinc 6 1, 109, 0), (.goto (-106), 112, 6)], 115)
def b_Mo_readSimple_115 : List (Instr × Nat × Nat) × Nat := ([(.iload 5, 115, 0), (.iconst 1, 117, 0), (.iadd, 118, 0), (.istore 6, 119, 0), (.aload_n ⟨0, q_l04⟩, 121, 0), (.iload_n ⟨1, q_l14⟩, 122, 0), (.iload_n ⟨2, q_l24⟩, 123, 0), (.i2l, 124, 0), (.ldc2_w 270, 125, 0), (.ldc2_w 126, 128, 0), (.iload_n ⟨3, q_l34⟩, 131, 0), (.i2l, 132, 0), (.lmul, 133, 0), (.ladd, 134, 0), (.invokevirtual 120, 135, 0), (.istore 7, 138, 0), (.aload_n ⟨0, q_l04⟩, 140, 0), (.ldc2_w 147, 141, 0), (.ldc2_w 126, 144, 0), (.iload_n ⟨3, q_l34⟩, 147, 0), (.i2l, 148, 0), (.lmul, 149, 0), (.ladd, 150, 0), (.iload 7, 151, 0), (.i2l, 153, 0), (.ladd, 154, 0), (.iload_n ⟨2, q_l24⟩, 155, 0), (.i2l, 156, 0), (.lcmp, 157, 0), (.ifCond .gt 7, 158, 165), (.iconst 1, 161, 0), (.goto 4, 162, 166)], 165)
def b_Mo_readSimple_165 : List (Instr × Nat × Nat) × Nat := ([(.iconst 0, 165, 0)], 166)
def b_Mo_readSimple_166 : List (Instr × Nat × Nat) × Nat := ([(.invokevirtual 109, 166, 0), (.aload_n ⟨0, q_l04⟩, 169, 0), (.getfield 105, 170, 0), (.ifCond .eq 4, 173, 177), (.return_, 176, 0)], 177)
def b_Mo_readSimple_177 : List (Instr × Nat × Nat) × Nat := ([(.aload_n ⟨0, q_l04⟩, 177, 0), (.getfield 44, 178, 0), (.iload 4, 181, 0), (.iload_n ⟨3, q_l34⟩, 183, 0), (.iastore, 184, 0), (.aload_n ⟨0, q_l04⟩, 185, 0), (.getfield 41, 186, 0), (.iload 4, 189, 0), (.iload 6, 191, 0), (.iastore, 193, 0), (.aload_n ⟨0, q_l04⟩, 194, 0), (.iload_n ⟨1, q_l14⟩, 195, 0), (.iload_n ⟨2, q_l24⟩, 196, 0), (.ldc2_w 147, 197, 0), (.ldc2_w 126, 200, 0), (.iload_n ⟨3, q_l34⟩, 203, 0), (.i2l, 204, 0), (.lmul, 205, 0), (.ladd, 206, 0), (.iload 7, 207, 0), (.i2l, 209, 0), (.ladd, 210, 0), (.iload 6, 211, 0), (.iload 4, 213, 0), (.invokevirtual 272, 215, 0), (.lstore 8, 218, 0), (.aload_n ⟨0, q_l04⟩, 220, 0), (.iload_n ⟨1, q_l14⟩, 221, 0), (.iload_n ⟨2, q_l24⟩, 222, 0), (.lload 8, 223, 0), (.iload 6, 225, 0), (.iload 4, 227, 0), (.iconst 1, 229, 0), (.invokevirtual 276, 230, 0), (.lstore 8, 233, 0), (.aload_n ⟨0, q_l04⟩, 235, 0), (.iload_n ⟨1, q_l14⟩, 236, 0), (.iload_n ⟨2, q_l24⟩, 237, 0), (.lload 8, 238, 0), (.iload 6, 240, 0), (.iload 4, 242, 0), (.iconst 0, 244, 0), (.invokevirtual 276, 245, 0), (.pop2, 248, 0), (.return_, 249, 0)], 250)
def B_Mo_readSimple : q_B := [(0, b_Mo_readSimple_0), (6, b_Mo_readSimple_6), (59, b_Mo_readSimple_59), (60, b_Mo_readSimple_60), (69, b_Mo_readSimple_69), (105, b_Mo_readSimple_105), (115, b_Mo_readSimple_115), (165, b_Mo_readSimple_165), (166, b_Mo_readSimple_166), (177, b_Mo_readSimple_177)]
theorem o_Mo_readSimple : q_okC M_Mo_readSimple B_Mo_readSimple = true := by decide +kernel
theorem u_Mo_readSimple : q_okM M_Mo_readSimple = true := by decide +kernel
theorem l_Mo_readSimple_0 : q_bk B_Mo_readSimple 0 = some ([(.iconst (-1), 0, 0), (.istore 5, 1, 0), (.iconst 0, 3, 0), (.istore 6, 4, 0)], 6) := rfl
theorem l_Mo_readSimple_6 : q_bk B_Mo_readSimple 6 = some ([(.iload 6, 6, 0), (.iload_n ⟨3, q_l34⟩, 8, 0), (.if_icmp .ge 106, 9, 115), (.aload_n ⟨0, q_l04⟩, 12, 0), (.getfield 105, 13, 0), (.ifCond .ne 99, 16, 115), (.aload_n ⟨0, q_l04⟩, 19, 0), (.iload_n ⟨1, q_l14⟩, 20, 0), (.iload_n ⟨2, q_l24⟩, 21, 0), (.i2l, 22, 0), (.ldc2_w 270, 23, 0), (.ldc2_w 126, 26, 0), (.iload 6, 29, 0), (.i2l, 31, 0), (.lmul, 32, 0), (.ladd, 33, 0), (.invokevirtual 120, 34, 0), (.istore 7, 37, 0), (.aload_n ⟨0, q_l04⟩, 39, 0), (.iload 7, 40, 0), (.iload 5, 42, 0), (.if_icmp .le 15, 44, 59), (.iload 7, 47, 0), (.sipush 256, 49, 0), (.if_icmp .ge 7, 52, 59), (.iconst 1, 55, 0), (.goto 4, 56, 60)], 59) := rfl
theorem l_Mo_readSimple_59 : q_bk B_Mo_readSimple 59 = some ([(.iconst 0, 59, 0)], 60) := rfl
theorem l_Mo_readSimple_60 : q_bk B_Mo_readSimple 60 = some ([(.invokevirtual 109, 60, 0), (.iload 5, 63, 0), (.iconst 1, 65, 0), (.iadd, 66, 0), (.istore 8, 67, 0)], 69) := rfl
theorem l_Mo_readSimple_69 : q_bk B_Mo_readSimple 69 = some ([(.iload 8, 69, 0), (.iload 7, 71, 0), (.if_icmp .gt 32, 73, 105), (.aload_n ⟨0, q_l04⟩, 76, 0), (.getfield 105, 77, 0), (.ifCond .ne 25, 80, 105), (.aload_n ⟨0, q_l04⟩, 83, 0), (.getfield 35, 84, 0), (.sipush 512, 87, 0), (.iload 4, 90, 0), (.imul, 92, 0), (.iload 8, 93, 0), (.iadd, 95, 0), (.iload 6, 96, 0), (.iastore, 98, 0), (.iinc 8 1, 99, 0), (.goto (-33), 102, 69)], 105) := rfl
theorem l_Mo_readSimple_105 : q_bk B_Mo_readSimple 105 = some ([(.iload 7, 105, 0), (.istore 5, 107, 0), (.iinc 6 1, 109, 0), (.goto (-106), 112, 6)], 115) := rfl
theorem l_Mo_readSimple_115 : q_bk B_Mo_readSimple 115 = some ([(.iload 5, 115, 0), (.iconst 1, 117, 0), (.iadd, 118, 0), (.istore 6, 119, 0), (.aload_n ⟨0, q_l04⟩, 121, 0), (.iload_n ⟨1, q_l14⟩, 122, 0), (.iload_n ⟨2, q_l24⟩, 123, 0), (.i2l, 124, 0), (.ldc2_w 270, 125, 0), (.ldc2_w 126, 128, 0), (.iload_n ⟨3, q_l34⟩, 131, 0), (.i2l, 132, 0), (.lmul, 133, 0), (.ladd, 134, 0), (.invokevirtual 120, 135, 0), (.istore 7, 138, 0), (.aload_n ⟨0, q_l04⟩, 140, 0), (.ldc2_w 147, 141, 0), (.ldc2_w 126, 144, 0), (.iload_n ⟨3, q_l34⟩, 147, 0), (.i2l, 148, 0), (.lmul, 149, 0), (.ladd, 150, 0), (.iload 7, 151, 0), (.i2l, 153, 0), (.ladd, 154, 0), (.iload_n ⟨2, q_l24⟩, 155, 0), (.i2l, 156, 0), (.lcmp, 157, 0), (.ifCond .gt 7, 158, 165), (.iconst 1, 161, 0), (.goto 4, 162, 166)], 165) := rfl
theorem l_Mo_readSimple_165 : q_bk B_Mo_readSimple 165 = some ([(.iconst 0, 165, 0)], 166) := rfl
theorem l_Mo_readSimple_166 : q_bk B_Mo_readSimple 166 = some ([(.invokevirtual 109, 166, 0), (.aload_n ⟨0, q_l04⟩, 169, 0), (.getfield 105, 170, 0), (.ifCond .eq 4, 173, 177), (.return_, 176, 0)], 177) := rfl
theorem l_Mo_readSimple_177 : q_bk B_Mo_readSimple 177 = some ([(.aload_n ⟨0, q_l04⟩, 177, 0), (.getfield 44, 178, 0), (.iload 4, 181, 0), (.iload_n ⟨3, q_l34⟩, 183, 0), (.iastore, 184, 0), (.aload_n ⟨0, q_l04⟩, 185, 0), (.getfield 41, 186, 0), (.iload 4, 189, 0), (.iload 6, 191, 0), (.iastore, 193, 0), (.aload_n ⟨0, q_l04⟩, 194, 0), (.iload_n ⟨1, q_l14⟩, 195, 0), (.iload_n ⟨2, q_l24⟩, 196, 0), (.ldc2_w 147, 197, 0), (.ldc2_w 126, 200, 0), (.iload_n ⟨3, q_l34⟩, 203, 0), (.i2l, 204, 0), (.lmul, 205, 0), (.ladd, 206, 0), (.iload 7, 207, 0), (.i2l, 209, 0), (.ladd, 210, 0), (.iload 6, 211, 0), (.iload 4, 213, 0), (.invokevirtual 272, 215, 0), (.lstore 8, 218, 0), (.aload_n ⟨0, q_l04⟩, 220, 0), (.iload_n ⟨1, q_l14⟩, 221, 0), (.iload_n ⟨2, q_l24⟩, 222, 0), (.lload 8, 223, 0), (.iload 6, 225, 0), (.iload 4, 227, 0), (.iconst 1, 229, 0), (.invokevirtual 276, 230, 0), (.lstore 8, 233, 0), (.aload_n ⟨0, q_l04⟩, 235, 0), (.iload_n ⟨1, q_l14⟩, 236, 0), (.iload_n ⟨2, q_l24⟩, 237, 0), (.lload 8, 238, 0), (.iload 6, 240, 0), (.iload 4, 242, 0), (.iconst 0, 244, 0), (.invokevirtual 276, 245, 0), (.pop2, 248, 0), (.return_, 249, 0)], 250) := rfl
def b_Mo_readFlags_0 : List (Instr × Nat × Nat) × Nat := ([(.lload_n ⟨3, q_l34⟩, 0, 0), (.lstore 7, 1, 0), (.iconst 0, 3, 0), (.istore 9, 4, 0)], 6)
def b_Mo_readFlags_6 : List (Instr × Nat × Nat) × Nat := ([(.iload 9, 6, 0), (.iload 5, 8, 0), (.if_icmp .ge 158, 10, 168), (.aload_n ⟨0, q_l04⟩, 13, 0), (.getfield 105, 14, 0), (.ifCond .ne 151, 17, 168), (.aload_n ⟨0, q_l04⟩, 20, 0), (.iload_n ⟨1, q_l14⟩, 21, 0), (.iload_n ⟨2, q_l24⟩, 22, 0), (.i2l, 23, 0), (.lload 7, 24, 0), (.invokevirtual 116, 26, 0), (.istore 10, 29, 0), (.iload 10, 31, 0), (.iconst 3, 33, 0), (.ishr, 34, 0), (.iconst 1, 35, 0), (.iand, 36, 0), (.istore 11, 37, 0), (.iconst 1, 39, 0), (.iload 11, 40, 0), (.iconst 1, 42, 0), (.if_icmp .ne 17, 43, 60), (.aload_n ⟨0, q_l04⟩, 46, 0), (.iload_n ⟨1, q_l14⟩, 47, 0), (.iload_n ⟨2, q_l24⟩, 48, 0), (.i2l, 49, 0), (.lload 7, 50, 0), (.lconst ⟨1, q_l12⟩, 52, 0), (.ladd, 53, 0), (.invokevirtual 116, 54, 0), (.goto 4, 57, 61)], 60)
def b_Mo_readFlags_60 : List (Instr × Nat × Nat) × Nat := ([(.iconst 0, 60, 0)], 61)
def b_Mo_readFlags_61 : List (Instr × Nat × Nat) × Nat := ([(.iadd, 61, 0), (.istore 12, 62, 0), (.lload 7, 64, 0), (.lconst ⟨1, q_l12⟩, 66, 0), (.ladd, 67, 0), (.iload 11, 68, 0), (.i2l, 70, 0), (.ladd, 71, 0), (.lstore 7, 72, 0), (.aload_n ⟨0, q_l04⟩, 74, 0), (.iload 9, 75, 0), (.iload 12, 77, 0), (.iadd, 79, 0), (.iload 5, 80, 0), (.if_icmp .gt 7, 82, 89), (.iconst 1, 85, 0), (.goto 4, 86, 90)], 89)
def b_Mo_readFlags_89 : List (Instr × Nat × Nat) × Nat := ([(.iconst 0, 89, 0)], 90)
def b_Mo_readFlags_90 : List (Instr × Nat × Nat) × Nat := ([(.invokevirtual 109, 90, 0), (.iconst 0, 93, 0), (.istore 13, 94, 0)], 96)
def b_Mo_readFlags_96 : List (Instr × Nat × Nat) × Nat := ([(.iload 13, 96, 0), (.iload 12, 98, 0), (.if_icmp .ge 58, 100, 158), (.aload_n ⟨0, q_l04⟩, 103, 0), (.getfield 105, 104, 0), (.ifCond .ne 51, 107, 158), (.aload_n ⟨0, q_l04⟩, 110, 0), (.getfield 38, 111, 0), (.iload 9, 114, 0), (.iload 13, 116, 0), (.iadd, 118, 0), (.iload 10, 119, 0), (.iastore, 121, 0), (.aload_n ⟨0, q_l04⟩, 122, 0), (.getfield 31, 123, 0), (.sipush 512, 126, 0), (.iload 6, 129, 0), (.imul, 131, 0), (.iload 9, 132, 0), (.iadd, 134, 0), (.iload 13, 135, 0), (.iadd, 137, 0), (.iload 10, 138, 0), (.iconst 2, 140, 0), (.irem, 141, 0), (.iconst 1, 142, 0), (.if_icmp .ne 7, 143, 150), (.iconst 1, 146, 0), (.goto 4, 147, 151)], 150)
def b_Mo_readFlags_150 : List (Instr × Nat × Nat) × Nat := ([(.iconst 0, 150, 0)], 151)
def b_Mo_readFlags_151 : List (Instr × Nat × Nat) × Nat := ([(.bastore, 151, 0), (.iinc 13 1, 152, 0), (.goto (-59), 155, 96)], 158)
def b_Mo_readFlags_158 : List (Instr × Nat × Nat) × Nat := ([(.iload 9, 158, 0), (.iload 12, 160, 0), (.iadd, 162, 0), (.istore 9, 163, 0), (.goto (-159), 165, 6)], 168)
def b_Mo_readFlags_168 : List (Instr × Nat × Nat) × Nat := ([(.lload 7, 168, 0), (.lreturn, 170, 0)], 171)
def B_Mo_readFlags : q_B := [(0, b_Mo_readFlags_0), (6, b_Mo_readFlags_6), (60, b_Mo_readFlags_60), (61, b_Mo_readFlags_61), (89, b_Mo_readFlags_89), (90, b_Mo_readFlags_90), (96, b_Mo_readFlags_96), (150, b_Mo_readFlags_150), (151, b_Mo_readFlags_151), (158, b_Mo_readFlags_158), (168, b_Mo_readFlags_168)]
theorem o_Mo_readFlags : q_okC M_Mo_readFlags B_Mo_readFlags = true := by decide +kernel
theorem u_Mo_readFlags : q_okM M_Mo_readFlags = true := by decide +kernel
theorem l_Mo_readFlags_0 : q_bk B_Mo_readFlags 0 = some ([(.lload_n ⟨3, q_l34⟩, 0, 0), (.lstore 7, 1, 0), (.iconst 0, 3, 0), (.istore 9, 4, 0)], 6) := rfl
theorem l_Mo_readFlags_6 : q_bk B_Mo_readFlags 6 = some ([(.iload 9, 6, 0), (.iload 5, 8, 0), (.if_icmp .ge 158, 10, 168), (.aload_n ⟨0, q_l04⟩, 13, 0), (.getfield 105, 14, 0), (.ifCond .ne 151, 17, 168), (.aload_n ⟨0, q_l04⟩, 20, 0), (.iload_n ⟨1, q_l14⟩, 21, 0), (.iload_n ⟨2, q_l24⟩, 22, 0), (.i2l, 23, 0), (.lload 7, 24, 0), (.invokevirtual 116, 26, 0), (.istore 10, 29, 0), (.iload 10, 31, 0), (.iconst 3, 33, 0), (.ishr, 34, 0), (.iconst 1, 35, 0), (.iand, 36, 0), (.istore 11, 37, 0), (.iconst 1, 39, 0), (.iload 11, 40, 0), (.iconst 1, 42, 0), (.if_icmp .ne 17, 43, 60), (.aload_n ⟨0, q_l04⟩, 46, 0), (.iload_n ⟨1, q_l14⟩, 47, 0), (.iload_n ⟨2, q_l24⟩, 48, 0), (.i2l, 49, 0), (.lload 7, 50, 0), (.lconst ⟨1, q_l12⟩, 52, 0), (.ladd, 53, 0), (.invokevirtual 116, 54, 0), (.goto 4, 57, 61)], 60) := rfl
theorem l_Mo_readFlags_60 : q_bk B_Mo_readFlags 60 = some ([(.iconst 0, 60, 0)], 61) := rfl
theorem l_Mo_readFlags_61 : q_bk B_Mo_readFlags 61 = some ([(.iadd, 61, 0), (.istore 12, 62, 0), (.lload 7, 64, 0), (.lconst ⟨1, q_l12⟩, 66, 0), (.ladd, 67, 0), (.iload 11, 68, 0), (.i2l, 70, 0), (.ladd, 71, 0), (.lstore 7, 72, 0), (.aload_n ⟨0, q_l04⟩, 74, 0), (.iload 9, 75, 0), (.iload 12, 77, 0), (.iadd, 79, 0), (.iload 5, 80, 0), (.if_icmp .gt 7, 82, 89), (.iconst 1, 85, 0), (.goto 4, 86, 90)], 89) := rfl
theorem l_Mo_readFlags_89 : q_bk B_Mo_readFlags 89 = some ([(.iconst 0, 89, 0)], 90) := rfl
theorem l_Mo_readFlags_90 : q_bk B_Mo_readFlags 90 = some ([(.invokevirtual 109, 90, 0), (.iconst 0, 93, 0), (.istore 13, 94, 0)], 96) := rfl
theorem l_Mo_readFlags_96 : q_bk B_Mo_readFlags 96 = some ([(.iload 13, 96, 0), (.iload 12, 98, 0), (.if_icmp .ge 58, 100, 158), (.aload_n ⟨0, q_l04⟩, 103, 0), (.getfield 105, 104, 0), (.ifCond .ne 51, 107, 158), (.aload_n ⟨0, q_l04⟩, 110, 0), (.getfield 38, 111, 0), (.iload 9, 114, 0), (.iload 13, 116, 0), (.iadd, 118, 0), (.iload 10, 119, 0), (.iastore, 121, 0), (.aload_n ⟨0, q_l04⟩, 122, 0), (.getfield 31, 123, 0), (.sipush 512, 126, 0), (.iload 6, 129, 0), (.imul, 131, 0), (.iload 9, 132, 0), (.iadd, 134, 0), (.iload 13, 135, 0), (.iadd, 137, 0), (.iload 10, 138, 0), (.iconst 2, 140, 0), (.irem, 141, 0), (.iconst 1, 142, 0), (.if_icmp .ne 7, 143, 150), (.iconst 1, 146, 0), (.goto 4, 147, 151)], 150) := rfl
theorem l_Mo_readFlags_150 : q_bk B_Mo_readFlags 150 = some ([(.iconst 0, 150, 0)], 151) := rfl
theorem l_Mo_readFlags_151 : q_bk B_Mo_readFlags 151 = some ([(.bastore, 151, 0), (.iinc 13 1, 152, 0), (.goto (-59), 155, 96)], 158) := rfl
theorem l_Mo_readFlags_158 : q_bk B_Mo_readFlags 158 = some ([(.iload 9, 158, 0), (.iload 12, 160, 0), (.iadd, 162, 0), (.istore 9, 163, 0), (.goto (-159), 165, 6)], 168) := rfl
theorem l_Mo_readFlags_168 : q_bk B_Mo_readFlags 168 = some ([(.lload 7, 168, 0), (.lreturn, 170, 0)], 171) := rfl
def b_Mo_readSteps_0 : List (Instr × Nat × Nat) × Nat := ([(.lload_n ⟨3, q_l34⟩, 0, 0), (.lstore 8, 1, 0), (.iconst 0, 3, 0), (.istore 10, 4, 0), (.iconst 0, 6, 0), (.istore 11, 7, 0)], 9)
def b_Mo_readSteps_9 : List (Instr × Nat × Nat) × Nat := ([(.iload 11, 9, 0), (.iload 5, 11, 0), (.if_icmp .ge 202, 13, 215), (.aload_n ⟨0, q_l04⟩, 16, 0), (.getfield 105, 17, 0), (.ifCond .ne 195, 20, 215), (.aload_n ⟨0, q_l04⟩, 23, 0), (.getfield 38, 24, 0), (.iload 11, 27, 0), (.iaload, 29, 0), (.iload 7, 30, 0), (.ifCond .eq 7, 32, 39), (.iconst 1, 35, 0), (.goto 4, 36, 40)], 39)
def b_Mo_readSteps_39 : List (Instr × Nat × Nat) × Nat := ([(.iconst 2, 39, 0)], 40)
def b_Mo_readSteps_40 : List (Instr × Nat × Nat) × Nat := ([(.ishr, 40, 0), (.iconst 1, 41, 0), (.iand, 42, 0), (.iconst 1, 43, 0), (.if_icmp .ne 7, 44, 51), (.iconst 1, 47, 0), (.goto 4, 48, 52)], 51)
def b_Mo_readSteps_51 : List (Instr × Nat × Nat) × Nat := ([(.iconst 0, 51, 0)], 52)
def b_Mo_readSteps_52 : List (Instr × Nat × Nat) × Nat := ([(.istore 12, 52, 0), (.aload_n ⟨0, q_l04⟩, 54, 0), (.getfield 38, 55, 0), (.iload 11, 58, 0), (.iaload, 60, 0), (.iload 7, 61, 0), (.ifCond .eq 7, 63, 70), (.iconst 4, 66, 0), (.goto 4, 67, 71)], 70)
def b_Mo_readSteps_70 : List (Instr × Nat × Nat) × Nat := ([(.iconst 5, 70, 0)], 71)
def b_Mo_readSteps_71 : List (Instr × Nat × Nat) × Nat := ([(.ishr, 71, 0), (.iconst 1, 72, 0), (.iand, 73, 0), (.iconst 1, 74, 0), (.if_icmp .ne 7, 75, 82), (.iconst 1, 78, 0), (.goto 4, 79, 83)], 82)
def b_Mo_readSteps_82 : List (Instr × Nat × Nat) × Nat := ([(.iconst 0, 82, 0)], 83)
def b_Mo_readSteps_83 : List (Instr × Nat × Nat) × Nat := ([(.istore 13, 83, 0), (.iconst 0, 85, 0), (.istore 14, 86, 0), (.iload 12, 88, 0), (.ifCond .eq 38, 90, 128), (.aload_n ⟨0, q_l04⟩, 93, 0), (.iload_n ⟨1, q_l14⟩, 94, 0), (.iload_n ⟨2, q_l24⟩, 95, 0), (.i2l, 96, 0), (.lload 8, 97, 0), (.invokevirtual 116, 99, 0), (.istore 14, 102, 0), (.iload 13, 104, 0), (.ifCond .eq 8, 106, 114), (.iload 14, 109, 0), (.goto 6, 111, 117)], 114)
def b_Mo_readSteps_114 : List (Instr × Nat × Nat) × Nat := ([(.iload 14, 114, 0), (.ineg, 116, 0)], 117)
def b_Mo_readSteps_117 : List (Instr × Nat × Nat) × Nat := ([(.istore 14, 117, 0), (.lload 8, 119, 0), (.lconst ⟨1, q_l12⟩, 121, 0), (.ladd, 122, 0), (.lstore 8, 123, 0), (.goto 27, 125, 152)], 128)
def b_Mo_readSteps_128 : List (Instr × Nat × Nat) × Nat := ([(.iload 13, 128, 0), (.ifCond .ne 22, 130, 152), (.aload_n ⟨0, q_l04⟩, 133, 0), (.iload_n ⟨1, q_l14⟩, 134, 0), (.iload_n ⟨2, q_l24⟩, 135, 0), (.i2l, 136, 0), (.lload 8, 137, 0), (.invokevirtual 263, 139, 0), (.istore 14, 142, 0), (.lload 8, 144, 0), (.ldc2_w 126, 146, 0), (.ladd, 149, 0), (.lstore 8, 150, 0)], 152)
def b_Mo_readSteps_152 : List (Instr × Nat × Nat) × Nat := ([(.iload 10, 152, 0), (.iload 14, 154, 0), (.iadd, 156, 0), (.istore 10, 157, 0), (.aload_n ⟨0, q_l04⟩, 159, 0), (.iload 10, 160, 0), (.i2l, 162, 0), (.invokestatic 280, 163, 0), (.invokevirtual 109, 166, 0), (.iload 7, 169, 0), (.ifCond .eq 22, 171, 193), (.aload_n ⟨0, q_l04⟩, 174, 0), (.getfield 25, 175, 0), (.sipush 512, 178, 0), (.iload 6, 181, 0), (.imul, 183, 0), (.iload 11, 184, 0), (.iadd, 186, 0), (.iload 10, 187, 0), (.iastore, 189, 0), (.goto 19, 190, 209)], 193)
def b_Mo_readSteps_193 : List (Instr × Nat × Nat) × Nat := ([(.aload_n ⟨0, q_l04⟩, 193, 0), (.getfield 28, 194, 0), (.sipush 512, 197, 0), (.iload 6, 200, 0), (.imul, 202, 0), (.iload 11, 203, 0), (.iadd, 205, 0), (.iload 10, 206, 0), (.iastore, 208, 0)], 209)
def b_Mo_readSteps_209 : List (Instr × Nat × Nat) × Nat := ([(.iinc 11 1, 209, 0), (.goto (-203), 212, 9)], 215)
def b_Mo_readSteps_215 : List (Instr × Nat × Nat) × Nat := ([(.lload 8, 215, 0), (.lreturn, 217, 0)], 218)
def B_Mo_readSteps : q_B := [(0, b_Mo_readSteps_0), (9, b_Mo_readSteps_9), (39, b_Mo_readSteps_39), (40, b_Mo_readSteps_40), (51, b_Mo_readSteps_51), (52, b_Mo_readSteps_52), (70, b_Mo_readSteps_70), (71, b_Mo_readSteps_71), (82, b_Mo_readSteps_82), (83, b_Mo_readSteps_83), (114, b_Mo_readSteps_114), (117, b_Mo_readSteps_117), (128, b_Mo_readSteps_128), (152, b_Mo_readSteps_152), (193, b_Mo_readSteps_193), (209, b_Mo_readSteps_209), (215, b_Mo_readSteps_215)]
theorem o_Mo_readSteps : q_okC M_Mo_readSteps B_Mo_readSteps = true := by decide +kernel
theorem u_Mo_readSteps : q_okM M_Mo_readSteps = true := by decide +kernel
theorem l_Mo_readSteps_0 : q_bk B_Mo_readSteps 0 = some ([(.lload_n ⟨3, q_l34⟩, 0, 0), (.lstore 8, 1, 0), (.iconst 0, 3, 0), (.istore 10, 4, 0), (.iconst 0, 6, 0), (.istore 11, 7, 0)], 9) := rfl
theorem l_Mo_readSteps_9 : q_bk B_Mo_readSteps 9 = some ([(.iload 11, 9, 0), (.iload 5, 11, 0), (.if_icmp .ge 202, 13, 215), (.aload_n ⟨0, q_l04⟩, 16, 0), (.getfield 105, 17, 0), (.ifCond .ne 195, 20, 215), (.aload_n ⟨0, q_l04⟩, 23, 0), (.getfield 38, 24, 0), (.iload 11, 27, 0), (.iaload, 29, 0), (.iload 7, 30, 0), (.ifCond .eq 7, 32, 39), (.iconst 1, 35, 0), (.goto 4, 36, 40)], 39) := rfl
theorem l_Mo_readSteps_39 : q_bk B_Mo_readSteps 39 = some ([(.iconst 2, 39, 0)], 40) := rfl
theorem l_Mo_readSteps_40 : q_bk B_Mo_readSteps 40 = some ([(.ishr, 40, 0), (.iconst 1, 41, 0), (.iand, 42, 0), (.iconst 1, 43, 0), (.if_icmp .ne 7, 44, 51), (.iconst 1, 47, 0), (.goto 4, 48, 52)], 51) := rfl
theorem l_Mo_readSteps_51 : q_bk B_Mo_readSteps 51 = some ([(.iconst 0, 51, 0)], 52) := rfl
theorem l_Mo_readSteps_52 : q_bk B_Mo_readSteps 52 = some ([(.istore 12, 52, 0), (.aload_n ⟨0, q_l04⟩, 54, 0), (.getfield 38, 55, 0), (.iload 11, 58, 0), (.iaload, 60, 0), (.iload 7, 61, 0), (.ifCond .eq 7, 63, 70), (.iconst 4, 66, 0), (.goto 4, 67, 71)], 70) := rfl
theorem l_Mo_readSteps_70 : q_bk B_Mo_readSteps 70 = some ([(.iconst 5, 70, 0)], 71) := rfl
theorem l_Mo_readSteps_71 : q_bk B_Mo_readSteps 71 = some ([(.ishr, 71, 0), (.iconst 1, 72, 0), (.iand, 73, 0), (.iconst 1, 74, 0), (.if_icmp .ne 7, 75, 82), (.iconst 1, 78, 0), (.goto 4, 79, 83)], 82) := rfl
theorem l_Mo_readSteps_82 : q_bk B_Mo_readSteps 82 = some ([(.iconst 0, 82, 0)], 83) := rfl
theorem l_Mo_readSteps_83 : q_bk B_Mo_readSteps 83 = some ([(.istore 13, 83, 0), (.iconst 0, 85, 0), (.istore 14, 86, 0), (.iload 12, 88, 0), (.ifCond .eq 38, 90, 128), (.aload_n ⟨0, q_l04⟩, 93, 0), (.iload_n ⟨1, q_l14⟩, 94, 0), (.iload_n ⟨2, q_l24⟩, 95, 0), (.i2l, 96, 0), (.lload 8, 97, 0), (.invokevirtual 116, 99, 0), (.istore 14, 102, 0), (.iload 13, 104, 0), (.ifCond .eq 8, 106, 114), (.iload 14, 109, 0), (.goto 6, 111, 117)], 114) := rfl
theorem l_Mo_readSteps_114 : q_bk B_Mo_readSteps 114 = some ([(.iload 14, 114, 0), (.ineg, 116, 0)], 117) := rfl
theorem l_Mo_readSteps_117 : q_bk B_Mo_readSteps 117 = some ([(.istore 14, 117, 0), (.lload 8, 119, 0), (.lconst ⟨1, q_l12⟩, 121, 0), (.ladd, 122, 0), (.lstore 8, 123, 0), (.goto 27, 125, 152)], 128) := rfl
theorem l_Mo_readSteps_128 : q_bk B_Mo_readSteps 128 = some ([(.iload 13, 128, 0), (.ifCond .ne 22, 130, 152), (.aload_n ⟨0, q_l04⟩, 133, 0), (.iload_n ⟨1, q_l14⟩, 134, 0), (.iload_n ⟨2, q_l24⟩, 135, 0), (.i2l, 136, 0), (.lload 8, 137, 0), (.invokevirtual 263, 139, 0), (.istore 14, 142, 0), (.lload 8, 144, 0), (.ldc2_w 126, 146, 0), (.ladd, 149, 0), (.lstore 8, 150, 0)], 152) := rfl
theorem l_Mo_readSteps_152 : q_bk B_Mo_readSteps 152 = some ([(.iload 10, 152, 0), (.iload 14, 154, 0), (.iadd, 156, 0), (.istore 10, 157, 0), (.aload_n ⟨0, q_l04⟩, 159, 0), (.iload 10, 160, 0), (.i2l, 162, 0), (.invokestatic 280, 163, 0), (.invokevirtual 109, 166, 0), (.iload 7, 169, 0), (.ifCond .eq 22, 171, 193), (.aload_n ⟨0, q_l04⟩, 174, 0), (.getfield 25, 175, 0), (.sipush 512, 178, 0), (.iload 6, 181, 0), (.imul, 183, 0), (.iload 11, 184, 0), (.iadd, 186, 0), (.iload 10, 187, 0), (.iastore, 189, 0), (.goto 19, 190, 209)], 193) := rfl
theorem l_Mo_readSteps_193 : q_bk B_Mo_readSteps 193 = some ([(.aload_n ⟨0, q_l04⟩, 193, 0), (.getfield 28, 194, 0), (.sipush 512, 197, 0), (.iload 6, 200, 0), (.imul, 202, 0), (.iload 11, 203, 0), (.iadd, 205, 0), (.iload 10, 206, 0), (.iastore, 208, 0)], 209) := rfl
theorem l_Mo_readSteps_209 : q_bk B_Mo_readSteps 209 = some ([(.iinc 11 1, 209, 0), (.goto (-203), 212, 9)], 215) := rfl
theorem l_Mo_readSteps_215 : q_bk B_Mo_readSteps 215 = some ([(.lload 8, 215, 0), (.lreturn, 217, 0)], 218) := rfl
def b_Mo_isCoordinate_0 : List (Instr × Nat × Nat) × Nat := ([(.lload_n ⟨0, q_l04⟩, 0, 0), (.ldc2_w 243, 1, 0), (.lcmp, 4, 0), (.ifCond .lt 15, 5, 20), (.lload_n ⟨0, q_l04⟩, 8, 0), (.ldc2_w 245, 9, 0), (.lcmp, 12, 0), (.ifCond .gt 7, 13, 20), (.iconst 1, 16, 0), (.goto 4, 17, 21)], 20)
def b_Mo_isCoordinate_20 : List (Instr × Nat × Nat) × Nat := ([(.iconst 0, 20, 0)], 21)
def b_Mo_isCoordinate_21 : List (Instr × Nat × Nat) × Nat := ([(.ireturn, 21, 0)], 22)
def B_Mo_isCoordinate : q_B := [(0, b_Mo_isCoordinate_0), (20, b_Mo_isCoordinate_20), (21, b_Mo_isCoordinate_21)]
theorem o_Mo_isCoordinate : q_okC M_Mo_isCoordinate B_Mo_isCoordinate = true := by decide +kernel
theorem u_Mo_isCoordinate : q_okM M_Mo_isCoordinate = true := by decide +kernel
theorem l_Mo_isCoordinate_0 : q_bk B_Mo_isCoordinate 0 = some ([(.lload_n ⟨0, q_l04⟩, 0, 0), (.ldc2_w 243, 1, 0), (.lcmp, 4, 0), (.ifCond .lt 15, 5, 20), (.lload_n ⟨0, q_l04⟩, 8, 0), (.ldc2_w 245, 9, 0), (.lcmp, 12, 0), (.ifCond .gt 7, 13, 20), (.iconst 1, 16, 0), (.goto 4, 17, 21)], 20) := rfl
theorem l_Mo_isCoordinate_20 : q_bk B_Mo_isCoordinate 20 = some ([(.iconst 0, 20, 0)], 21) := rfl
theorem l_Mo_isCoordinate_21 : q_bk B_Mo_isCoordinate 21 = some ([(.ireturn, 21, 0)], 22) := rfl
def b_Mo_readPart_0 : List (Instr × Nat × Nat) × Nat := ([(.aload_n ⟨0, q_l04⟩, 0, 0), (.dup, 1, 0), (.getfield 247, 2, 0), (.iconst 1, 5, 0), (.iadd, 6, 0), (.putfield 247, 7, 0), (.aload_n ⟨0, q_l04⟩, 10, 0), (.getfield 47, 11, 0), (.iload_n ⟨1, q_l14⟩, 14, 0), (.dup2, 15, 0), (.iaload, 16, 0), (.iconst 1, 17, 0), (.iadd, 18, 0), (.iastore, 19, 0), (.aload_n ⟨0, q_l04⟩, 20, 0), (.aload_n ⟨0, q_l04⟩, 21, 0), (.getfield 247, 22, 0), (.bipush 64, 25, 0), (.if_icmp .gt 18, 27, 45), (.aload_n ⟨0, q_l04⟩, 30, 0), (.getfield 47, 31, 0), (.iload_n ⟨1, q_l14⟩, 34, 0), (.iaload, 35, 0), (.bipush 16, 36, 0), (.if_icmp .gt 7, 38, 45), (.iconst 1, 41, 0), (.goto 4, 42, 46)], 45)
def b_Mo_readPart_45 : List (Instr × Nat × Nat) × Nat := ([(.iconst 0, 45, 0)], 46)
def b_Mo_readPart_46 : List (Instr × Nat × Nat) × Nat := ([(.invokevirtual 109, 46, 0), (.aload_n ⟨0, q_l04⟩, 49, 0), (.getfield 50, 50, 0), (.iload_n ⟨1, q_l14⟩, 53, 0), (.iaload, 54, 0), (.i2l, 55, 0), (.lstore_n ⟨2, q_l24⟩, 56, 0), (.aload_n ⟨0, q_l04⟩, 57, 0), (.aload_n ⟨0, q_l04⟩, 58, 0), (.getfield 53, 59, 0), (.iload_n ⟨1, q_l14⟩, 62, 0), (.iaload, 63, 0), (.aload_n ⟨0, q_l04⟩, 64, 0), (.getfield 56, 65, 0), (.iload_n ⟨1, q_l14⟩, 68, 0), (.iaload, 69, 0), (.i2l, 70, 0), (.lload_n ⟨2, q_l24⟩, 71, 0), (.invokevirtual 120, 72, 0), (.istore 4, 75, 0), (.aload_n ⟨0, q_l04⟩, 77, 0), (.aload_n ⟨0, q_l04⟩, 78, 0), (.getfield 53, 79, 0), (.iload_n ⟨1, q_l14⟩, 82, 0), (.iaload, 83, 0), (.aload_n ⟨0, q_l04⟩, 84, 0), (.getfield 56, 85, 0), (.iload_n ⟨1, q_l14⟩, 88, 0), (.iaload, 89, 0), (.i2l, 90, 0), (.lload_n ⟨2, q_l24⟩, 91, 0), (.ldc2_w 126, 92, 0), (.ladd, 95, 0), (.invokevirtual 120, 96, 0), (.istore 5, 99, 0), (.aload_n ⟨0, q_l04⟩, 101, 0), (.iload 5, 102, 0), (.aload_n ⟨0, q_l04⟩, 104, 0), (.invokevirtual 175, 105, 0), (.if_icmp .ge 7, 108, 115), (.iconst 1, 111, 0), (.goto 4, 112, 116)], 115)
def b_Mo_readPart_115 : List (Instr × Nat × Nat) × Nat := ([(.iconst 0, 115, 0)], 116)
def b_Mo_readPart_116 : List (Instr × Nat × Nat) × Nat := ([(.invokevirtual 109, 116, 0), (.iload 4, 119, 0), (.iconst 2, 121, 0), (.irem, 122, 0), (.iconst 1, 123, 0), (.if_icmp .ne 7, 124, 131), (.iconst 1, 127, 0), (.goto 4, 128, 132)], 131)
def b_Mo_readPart_131 : List (Instr × Nat × Nat) × Nat := ([(.iconst 0, 131, 0)], 132)
def b_Mo_readPart_132 : List (Instr × Nat × Nat) × Nat := ([(.istore 6, 132, 0), (.iload 4, 134, 0), (.iconst 1, 136, 0), (.ishr, 137, 0), (.iconst 1, 138, 0), (.iand, 139, 0), (.iconst 1, 140, 0), (.if_icmp .ne 7, 141, 148), (.iconst 1, 144, 0), (.goto 4, 145, 149)], 148)
def b_Mo_readPart_148 : List (Instr × Nat × Nat) × Nat := ([(.iconst 0, 148, 0)], 149)
def b_Mo_readPart_149 : List (Instr × Nat × Nat) × Nat := ([(.istore 7, 149, 0), (.aload_n ⟨0, q_l04⟩, 151, 0), (.iload_n ⟨1, q_l14⟩, 152, 0), (.lload_n ⟨2, q_l24⟩, 153, 0), (.ldc2_w 139, 154, 0), (.ladd, 157, 0), (.iload 6, 158, 0), (.iload 7, 160, 0), (.invokevirtual 285, 162, 0), (.istore 8, 165, 0), (.aload_n ⟨0, q_l04⟩, 167, 0), (.iload_n ⟨1, q_l14⟩, 168, 0), (.lload_n ⟨2, q_l24⟩, 169, 0), (.iload 6, 170, 0), (.ifCond .eq 9, 172, 181), (.ldc2_w 205, 175, 0), (.goto 6, 178, 184)], 181)
def b_Mo_readPart_181 : List (Instr × Nat × Nat) × Nat := ([(.ldc2_w 289, 181, 0)], 184)
def b_Mo_readPart_184 : List (Instr × Nat × Nat) × Nat := ([(.ladd, 184, 0), (.iload 6, 185, 0), (.iload 7, 187, 0), (.invokevirtual 285, 189, 0), (.istore 9, 192, 0), (.lload_n ⟨2, q_l24⟩, 194, 0), (.iload 6, 195, 0), (.ifCond .eq 9, 197, 206), (.ldc2_w 151, 200, 0), (.goto 6, 203, 209)], 206)
def b_Mo_readPart_206 : List (Instr × Nat × Nat) × Nat := ([(.ldc2_w 205, 206, 0)], 209)
def b_Mo_readPart_209 : List (Instr × Nat × Nat) × Nat := ([(.ladd, 209, 0), (.lstore_n ⟨2, q_l24⟩, 210, 0), (.iload 4, 211, 0), (.iconst 3, 213, 0), (.ishr, 214, 0), (.iconst 1, 215, 0), (.iand, 216, 0), (.iload 4, 217, 0), (.bipush 6, 219, 0), (.ishr, 221, 0), (.iconst 1, 222, 0), (.iand, 223, 0), (.iadd, 224, 0), (.iload 4, 225, 0), (.bipush 7, 227, 0), (.ishr, 229, 0), (.iconst 1, 230, 0), (.iand, 231, 0), (.iadd, 232, 0), (.istore 10, 233, 0), (.aload_n ⟨0, q_l04⟩, 235, 0), (.iload 10, 236, 0), (.iconst 1, 238, 0), (.if_icmp .gt 7, 239, 246), (.iconst 1, 242, 0), (.goto 4, 243, 247)], 246)
def b_Mo_readPart_246 : List (Instr × Nat × Nat) × Nat := ([(.iconst 0, 246, 0)], 247)
def b_Mo_readPart_247 : List (Instr × Nat × Nat) × Nat := ([(.invokevirtual 109, 247, 0), (.iload 4, 250, 0), (.iconst 3, 252, 0), (.ishr, 253, 0), (.iconst 1, 254, 0), (.iand, 255, 0), (.iconst 2, 256, 0), (.iload 4, 257, 0), (.bipush 6, 259, 0), (.ishr, 261, 0), (.iconst 1, 262, 0), (.iand, 263, 0), (.imul, 264, 0), (.iadd, 265, 0), (.iconst 4, 266, 0), (.iload 4, 267, 0), (.bipush 7, 269, 0), (.ishr, 271, 0), (.iconst 1, 272, 0), (.iand, 273, 0), (.imul, 274, 0), (.iadd, 275, 0), (.istore 11, 276, 0), (.aload_n ⟨0, q_l04⟩, 278, 0), (.getfield 71, 279, 0), (.iload_n ⟨1, q_l14⟩, 282, 0), (.iload 11, 283, 0), (.ifCond .le 12, 285, 297), (.aload_n ⟨0, q_l04⟩, 288, 0), (.iload_n ⟨1, q_l14⟩, 289, 0), (.lload_n ⟨2, q_l24⟩, 290, 0), (.invokevirtual 291, 291, 0), (.goto 6, 294, 300)], 297)
def b_Mo_readPart_297 : List (Instr × Nat × Nat) × Nat := ([(.sipush 16384, 297, 0)], 300)
def b_Mo_readPart_300 : List (Instr × Nat × Nat) × Nat := ([(.iastore, 300, 0), (.aload_n ⟨0, q_l04⟩, 301, 0), (.getfield 80, 302, 0), (.iload_n ⟨1, q_l14⟩, 305, 0), (.iload 11, 306, 0), (.ifCond .ne 9, 308, 317), (.sipush 16384, 311, 0), (.goto 34, 314, 348)], 317)
def b_Mo_readPart_317 : List (Instr × Nat × Nat) × Nat := ([(.iload 11, 317, 0), (.iconst 1, 319, 0), (.if_icmp .ne 12, 320, 332), (.aload_n ⟨0, q_l04⟩, 323, 0), (.getfield 71, 324, 0), (.iload_n ⟨1, q_l14⟩, 327, 0), (.iaload, 328, 0), (.goto 19, 329, 348)], 332)
def b_Mo_readPart_332 : List (Instr × Nat × Nat) × Nat := ([(.aload_n ⟨0, q_l04⟩, 332, 0), (.iload_n ⟨1, q_l14⟩, 333, 0), (.lload_n ⟨2, q_l24⟩, 334, 0), (.ldc2_w 126, 335, 0), (.iload 11, 338, 0), (.iconst 1, 340, 0), (.isub, 341, 0), (.i2l, 342, 0), (.lmul, 343, 0), (.ladd, 344, 0), (.invokevirtual 291, 345, 0)], 348)
def b_Mo_readPart_348 : List (Instr × Nat × Nat) × Nat := ([(.iastore, 348, 0), (.aload_n ⟨0, q_l04⟩, 349, 0), (.getfield 74, 350, 0), (.iload_n ⟨1, q_l14⟩, 353, 0), (.iload 11, 354, 0), (.iconst 4, 356, 0), (.if_icmp .ne 16, 357, 373), (.aload_n ⟨0, q_l04⟩, 360, 0), (.iload_n ⟨1, q_l14⟩, 361, 0), (.lload_n ⟨2, q_l24⟩, 362, 0), (.ldc2_w 126, 363, 0), (.ladd, 366, 0), (.invokevirtual 291, 367, 0), (.goto 4, 370, 374)], 373)
def b_Mo_readPart_373 : List (Instr × Nat × Nat) × Nat := ([(.iconst 0, 373, 0)], 374)
def b_Mo_readPart_374 : List (Instr × Nat × Nat) × Nat := ([(.iastore, 374, 0), (.aload_n ⟨0, q_l04⟩, 375, 0), (.getfield 77, 376, 0), (.iload_n ⟨1, q_l14⟩, 379, 0), (.iload 11, 380, 0), (.iconst 4, 382, 0), (.if_icmp .ne 16, 383, 399), (.aload_n ⟨0, q_l04⟩, 386, 0), (.iload_n ⟨1, q_l14⟩, 387, 0), (.lload_n ⟨2, q_l24⟩, 388, 0), (.ldc2_w 139, 389, 0), (.ladd, 392, 0), (.invokevirtual 291, 393, 0), (.goto 4, 396, 400)], 399)
def b_Mo_readPart_399 : List (Instr × Nat × Nat) × Nat := ([(.iconst 0, 399, 0)], 400)
def b_Mo_readPart_400 : List (Instr × Nat × Nat) × Nat := ([(.iastore, 400, 0), (.aload_n ⟨0, q_l04⟩, 401, 0), (.getfield 62, 402, 0), (.iload_n ⟨1, q_l14⟩, 405, 0), (.iload 4, 406, 0), (.iastore, 408, 0), (.aload_n ⟨0, q_l04⟩, 409, 0), (.getfield 65, 410, 0), (.iload_n ⟨1, q_l14⟩, 413, 0), (.iload 8, 414, 0), (.iastore, 416, 0), (.aload_n ⟨0, q_l04⟩, 417, 0), (.getfield 68, 418, 0), (.iload_n ⟨1, q_l14⟩, 421, 0), (.iload 9, 422, 0), (.iastore, 424, 0), (.aload_n ⟨0, q_l04⟩, 425, 0), (.iload_n ⟨1, q_l14⟩, 426, 0), (.ifCond .ne 19, 427, 446), (.iload 4, 430, 0), (.bipush 9, 432, 0), (.ishr, 434, 0), (.iconst 1, 435, 0), (.iand, 436, 0), (.iconst 1, 437, 0), (.if_icmp .ne 8, 438, 446), (.iload 5, 441, 0), (.goto 7, 443, 450)], 446)
def b_Mo_readPart_446 : List (Instr × Nat × Nat) × Nat := ([(.aload_n ⟨0, q_l04⟩, 446, 0), (.getfield 250, 447, 0)], 450)
def b_Mo_readPart_450 : List (Instr × Nat × Nat) × Nat := ([(.putfield 250, 450, 0), (.aload_n ⟨0, q_l04⟩, 453, 0), (.getfield 59, 454, 0), (.iload_n ⟨1, q_l14⟩, 457, 0), (.iload 4, 458, 0), (.iconst 5, 460, 0), (.ishr, 461, 0), (.iconst 1, 462, 0), (.iand, 463, 0), (.iconst 1, 464, 0), (.if_icmp .ne 7, 465, 472), (.iconst 1, 468, 0), (.goto 4, 469, 473)], 472)
def b_Mo_readPart_472 : List (Instr × Nat × Nat) × Nat := ([(.iconst 0, 472, 0)], 473)
def b_Mo_readPart_473 : List (Instr × Nat × Nat) × Nat := ([(.bastore, 473, 0), (.aload_n ⟨0, q_l04⟩, 474, 0), (.getfield 50, 475, 0), (.iload_n ⟨1, q_l14⟩, 478, 0), (.lload_n ⟨2, q_l24⟩, 479, 0), (.ldc2_w 126, 480, 0), (.iload 11, 483, 0), (.i2l, 485, 0), (.lmul, 486, 0), (.ladd, 487, 0), (.l2i, 488, 0), (.iastore, 489, 0), (.aload_n ⟨0, q_l04⟩, 490, 0), (.getfield 105, 491, 0), (.ifCond .eq 7, 494, 501), (.iconst 0, 497, 0), (.goto 5, 498, 503)], 501)
def b_Mo_readPart_501 : List (Instr × Nat × Nat) × Nat := ([(.iload 5, 501, 0)], 503)
def b_Mo_readPart_503 : List (Instr × Nat × Nat) × Nat := ([(.ireturn, 503, 0)], 504)
def B_Mo_readPart : q_B := [(0, b_Mo_readPart_0), (45, b_Mo_readPart_45), (46, b_Mo_readPart_46), (115, b_Mo_readPart_115), (116, b_Mo_readPart_116), (131, b_Mo_readPart_131), (132, b_Mo_readPart_132), (148, b_Mo_readPart_148), (149, b_Mo_readPart_149), (181, b_Mo_readPart_181), (184, b_Mo_readPart_184), (206, b_Mo_readPart_206), (209, b_Mo_readPart_209), (246, b_Mo_readPart_246), (247, b_Mo_readPart_247), (297, b_Mo_readPart_297), (300, b_Mo_readPart_300), (317, b_Mo_readPart_317), (332, b_Mo_readPart_332), (348, b_Mo_readPart_348), (373, b_Mo_readPart_373), (374, b_Mo_readPart_374), (399, b_Mo_readPart_399), (400, b_Mo_readPart_400), (446, b_Mo_readPart_446), (450, b_Mo_readPart_450), (472, b_Mo_readPart_472), (473, b_Mo_readPart_473), (501, b_Mo_readPart_501), (503, b_Mo_readPart_503)]
theorem o_Mo_readPart : q_okC M_Mo_readPart B_Mo_readPart = true := by decide +kernel
theorem u_Mo_readPart : q_okM M_Mo_readPart = true := by decide +kernel
theorem l_Mo_readPart_0 : q_bk B_Mo_readPart 0 = some ([(.aload_n ⟨0, q_l04⟩, 0, 0), (.dup, 1, 0), (.getfield 247, 2, 0), (.iconst 1, 5, 0), (.iadd, 6, 0), (.putfield 247, 7, 0), (.aload_n ⟨0, q_l04⟩, 10, 0), (.getfield 47, 11, 0), (.iload_n ⟨1, q_l14⟩, 14, 0), (.dup2, 15, 0), (.iaload, 16, 0), (.iconst 1, 17, 0), (.iadd, 18, 0), (.iastore, 19, 0), (.aload_n ⟨0, q_l04⟩, 20, 0), (.aload_n ⟨0, q_l04⟩, 21, 0), (.getfield 247, 22, 0), (.bipush 64, 25, 0), (.if_icmp .gt 18, 27, 45), (.aload_n ⟨0, q_l04⟩, 30, 0), (.getfield 47, 31, 0), (.iload_n ⟨1, q_l14⟩, 34, 0), (.iaload, 35, 0), (.bipush 16, 36, 0), (.if_icmp .gt 7, 38, 45), (.iconst 1, 41, 0), (.goto 4, 42, 46)], 45) := rfl
theorem l_Mo_readPart_45 : q_bk B_Mo_readPart 45 = some ([(.iconst 0, 45, 0)], 46) := rfl
theorem l_Mo_readPart_46 : q_bk B_Mo_readPart 46 = some ([(.invokevirtual 109, 46, 0), (.aload_n ⟨0, q_l04⟩, 49, 0), (.getfield 50, 50, 0), (.iload_n ⟨1, q_l14⟩, 53, 0), (.iaload, 54, 0), (.i2l, 55, 0), (.lstore_n ⟨2, q_l24⟩, 56, 0), (.aload_n ⟨0, q_l04⟩, 57, 0), (.aload_n ⟨0, q_l04⟩, 58, 0), (.getfield 53, 59, 0), (.iload_n ⟨1, q_l14⟩, 62, 0), (.iaload, 63, 0), (.aload_n ⟨0, q_l04⟩, 64, 0), (.getfield 56, 65, 0), (.iload_n ⟨1, q_l14⟩, 68, 0), (.iaload, 69, 0), (.i2l, 70, 0), (.lload_n ⟨2, q_l24⟩, 71, 0), (.invokevirtual 120, 72, 0), (.istore 4, 75, 0), (.aload_n ⟨0, q_l04⟩, 77, 0), (.aload_n ⟨0, q_l04⟩, 78, 0), (.getfield 53, 79, 0), (.iload_n ⟨1, q_l14⟩, 82, 0), (.iaload, 83, 0), (.aload_n ⟨0, q_l04⟩, 84, 0), (.getfield 56, 85, 0), (.iload_n ⟨1, q_l14⟩, 88, 0), (.iaload, 89, 0), (.i2l, 90, 0), (.lload_n ⟨2, q_l24⟩, 91, 0), (.ldc2_w 126, 92, 0), (.ladd, 95, 0), (.invokevirtual 120, 96, 0), (.istore 5, 99, 0), (.aload_n ⟨0, q_l04⟩, 101, 0), (.iload 5, 102, 0), (.aload_n ⟨0, q_l04⟩, 104, 0), (.invokevirtual 175, 105, 0), (.if_icmp .ge 7, 108, 115), (.iconst 1, 111, 0), (.goto 4, 112, 116)], 115) := rfl
theorem l_Mo_readPart_115 : q_bk B_Mo_readPart 115 = some ([(.iconst 0, 115, 0)], 116) := rfl
theorem l_Mo_readPart_116 : q_bk B_Mo_readPart 116 = some ([(.invokevirtual 109, 116, 0), (.iload 4, 119, 0), (.iconst 2, 121, 0), (.irem, 122, 0), (.iconst 1, 123, 0), (.if_icmp .ne 7, 124, 131), (.iconst 1, 127, 0), (.goto 4, 128, 132)], 131) := rfl
theorem l_Mo_readPart_131 : q_bk B_Mo_readPart 131 = some ([(.iconst 0, 131, 0)], 132) := rfl
theorem l_Mo_readPart_132 : q_bk B_Mo_readPart 132 = some ([(.istore 6, 132, 0), (.iload 4, 134, 0), (.iconst 1, 136, 0), (.ishr, 137, 0), (.iconst 1, 138, 0), (.iand, 139, 0), (.iconst 1, 140, 0), (.if_icmp .ne 7, 141, 148), (.iconst 1, 144, 0), (.goto 4, 145, 149)], 148) := rfl
theorem l_Mo_readPart_148 : q_bk B_Mo_readPart 148 = some ([(.iconst 0, 148, 0)], 149) := rfl
theorem l_Mo_readPart_149 : q_bk B_Mo_readPart 149 = some ([(.istore 7, 149, 0), (.aload_n ⟨0, q_l04⟩, 151, 0), (.iload_n ⟨1, q_l14⟩, 152, 0), (.lload_n ⟨2, q_l24⟩, 153, 0), (.ldc2_w 139, 154, 0), (.ladd, 157, 0), (.iload 6, 158, 0), (.iload 7, 160, 0), (.invokevirtual 285, 162, 0), (.istore 8, 165, 0), (.aload_n ⟨0, q_l04⟩, 167, 0), (.iload_n ⟨1, q_l14⟩, 168, 0), (.lload_n ⟨2, q_l24⟩, 169, 0), (.iload 6, 170, 0), (.ifCond .eq 9, 172, 181), (.ldc2_w 205, 175, 0), (.goto 6, 178, 184)], 181) := rfl
theorem l_Mo_readPart_181 : q_bk B_Mo_readPart 181 = some ([(.ldc2_w 289, 181, 0)], 184) := rfl
theorem l_Mo_readPart_184 : q_bk B_Mo_readPart 184 = some ([(.ladd, 184, 0), (.iload 6, 185, 0), (.iload 7, 187, 0), (.invokevirtual 285, 189, 0), (.istore 9, 192, 0), (.lload_n ⟨2, q_l24⟩, 194, 0), (.iload 6, 195, 0), (.ifCond .eq 9, 197, 206), (.ldc2_w 151, 200, 0), (.goto 6, 203, 209)], 206) := rfl
theorem l_Mo_readPart_206 : q_bk B_Mo_readPart 206 = some ([(.ldc2_w 205, 206, 0)], 209) := rfl
theorem l_Mo_readPart_209 : q_bk B_Mo_readPart 209 = some ([(.ladd, 209, 0), (.lstore_n ⟨2, q_l24⟩, 210, 0), (.iload 4, 211, 0), (.iconst 3, 213, 0), (.ishr, 214, 0), (.iconst 1, 215, 0), (.iand, 216, 0), (.iload 4, 217, 0), (.bipush 6, 219, 0), (.ishr, 221, 0), (.iconst 1, 222, 0), (.iand, 223, 0), (.iadd, 224, 0), (.iload 4, 225, 0), (.bipush 7, 227, 0), (.ishr, 229, 0), (.iconst 1, 230, 0), (.iand, 231, 0), (.iadd, 232, 0), (.istore 10, 233, 0), (.aload_n ⟨0, q_l04⟩, 235, 0), (.iload 10, 236, 0), (.iconst 1, 238, 0), (.if_icmp .gt 7, 239, 246), (.iconst 1, 242, 0), (.goto 4, 243, 247)], 246) := rfl
theorem l_Mo_readPart_246 : q_bk B_Mo_readPart 246 = some ([(.iconst 0, 246, 0)], 247) := rfl
theorem l_Mo_readPart_247 : q_bk B_Mo_readPart 247 = some ([(.invokevirtual 109, 247, 0), (.iload 4, 250, 0), (.iconst 3, 252, 0), (.ishr, 253, 0), (.iconst 1, 254, 0), (.iand, 255, 0), (.iconst 2, 256, 0), (.iload 4, 257, 0), (.bipush 6, 259, 0), (.ishr, 261, 0), (.iconst 1, 262, 0), (.iand, 263, 0), (.imul, 264, 0), (.iadd, 265, 0), (.iconst 4, 266, 0), (.iload 4, 267, 0), (.bipush 7, 269, 0), (.ishr, 271, 0), (.iconst 1, 272, 0), (.iand, 273, 0), (.imul, 274, 0), (.iadd, 275, 0), (.istore 11, 276, 0), (.aload_n ⟨0, q_l04⟩, 278, 0), (.getfield 71, 279, 0), (.iload_n ⟨1, q_l14⟩, 282, 0), (.iload 11, 283, 0), (.ifCond .le 12, 285, 297), (.aload_n ⟨0, q_l04⟩, 288, 0), (.iload_n ⟨1, q_l14⟩, 289, 0), (.lload_n ⟨2, q_l24⟩, 290, 0), (.invokevirtual 291, 291, 0), (.goto 6, 294, 300)], 297) := rfl
theorem l_Mo_readPart_297 : q_bk B_Mo_readPart 297 = some ([(.sipush 16384, 297, 0)], 300) := rfl
theorem l_Mo_readPart_300 : q_bk B_Mo_readPart 300 = some ([(.iastore, 300, 0), (.aload_n ⟨0, q_l04⟩, 301, 0), (.getfield 80, 302, 0), (.iload_n ⟨1, q_l14⟩, 305, 0), (.iload 11, 306, 0), (.ifCond .ne 9, 308, 317), (.sipush 16384, 311, 0), (.goto 34, 314, 348)], 317) := rfl
theorem l_Mo_readPart_317 : q_bk B_Mo_readPart 317 = some ([(.iload 11, 317, 0), (.iconst 1, 319, 0), (.if_icmp .ne 12, 320, 332), (.aload_n ⟨0, q_l04⟩, 323, 0), (.getfield 71, 324, 0), (.iload_n ⟨1, q_l14⟩, 327, 0), (.iaload, 328, 0), (.goto 19, 329, 348)], 332) := rfl
theorem l_Mo_readPart_332 : q_bk B_Mo_readPart 332 = some ([(.aload_n ⟨0, q_l04⟩, 332, 0), (.iload_n ⟨1, q_l14⟩, 333, 0), (.lload_n ⟨2, q_l24⟩, 334, 0), (.ldc2_w 126, 335, 0), (.iload 11, 338, 0), (.iconst 1, 340, 0), (.isub, 341, 0), (.i2l, 342, 0), (.lmul, 343, 0), (.ladd, 344, 0), (.invokevirtual 291, 345, 0)], 348) := rfl
theorem l_Mo_readPart_348 : q_bk B_Mo_readPart 348 = some ([(.iastore, 348, 0), (.aload_n ⟨0, q_l04⟩, 349, 0), (.getfield 74, 350, 0), (.iload_n ⟨1, q_l14⟩, 353, 0), (.iload 11, 354, 0), (.iconst 4, 356, 0), (.if_icmp .ne 16, 357, 373), (.aload_n ⟨0, q_l04⟩, 360, 0), (.iload_n ⟨1, q_l14⟩, 361, 0), (.lload_n ⟨2, q_l24⟩, 362, 0), (.ldc2_w 126, 363, 0), (.ladd, 366, 0), (.invokevirtual 291, 367, 0), (.goto 4, 370, 374)], 373) := rfl
theorem l_Mo_readPart_373 : q_bk B_Mo_readPart 373 = some ([(.iconst 0, 373, 0)], 374) := rfl
theorem l_Mo_readPart_374 : q_bk B_Mo_readPart 374 = some ([(.iastore, 374, 0), (.aload_n ⟨0, q_l04⟩, 375, 0), (.getfield 77, 376, 0), (.iload_n ⟨1, q_l14⟩, 379, 0), (.iload 11, 380, 0), (.iconst 4, 382, 0), (.if_icmp .ne 16, 383, 399), (.aload_n ⟨0, q_l04⟩, 386, 0), (.iload_n ⟨1, q_l14⟩, 387, 0), (.lload_n ⟨2, q_l24⟩, 388, 0), (.ldc2_w 139, 389, 0), (.ladd, 392, 0), (.invokevirtual 291, 393, 0), (.goto 4, 396, 400)], 399) := rfl
theorem l_Mo_readPart_399 : q_bk B_Mo_readPart 399 = some ([(.iconst 0, 399, 0)], 400) := rfl
theorem l_Mo_readPart_400 : q_bk B_Mo_readPart 400 = some ([(.iastore, 400, 0), (.aload_n ⟨0, q_l04⟩, 401, 0), (.getfield 62, 402, 0), (.iload_n ⟨1, q_l14⟩, 405, 0), (.iload 4, 406, 0), (.iastore, 408, 0), (.aload_n ⟨0, q_l04⟩, 409, 0), (.getfield 65, 410, 0), (.iload_n ⟨1, q_l14⟩, 413, 0), (.iload 8, 414, 0), (.iastore, 416, 0), (.aload_n ⟨0, q_l04⟩, 417, 0), (.getfield 68, 418, 0), (.iload_n ⟨1, q_l14⟩, 421, 0), (.iload 9, 422, 0), (.iastore, 424, 0), (.aload_n ⟨0, q_l04⟩, 425, 0), (.iload_n ⟨1, q_l14⟩, 426, 0), (.ifCond .ne 19, 427, 446), (.iload 4, 430, 0), (.bipush 9, 432, 0), (.ishr, 434, 0), (.iconst 1, 435, 0), (.iand, 436, 0), (.iconst 1, 437, 0), (.if_icmp .ne 8, 438, 446), (.iload 5, 441, 0), (.goto 7, 443, 450)], 446) := rfl
theorem l_Mo_readPart_446 : q_bk B_Mo_readPart 446 = some ([(.aload_n ⟨0, q_l04⟩, 446, 0), (.getfield 250, 447, 0)], 450) := rfl
theorem l_Mo_readPart_450 : q_bk B_Mo_readPart 450 = some ([(.putfield 250, 450, 0), (.aload_n ⟨0, q_l04⟩, 453, 0), (.getfield 59, 454, 0), (.iload_n ⟨1, q_l14⟩, 457, 0), (.iload 4, 458, 0), (.iconst 5, 460, 0), (.ishr, 461, 0), (.iconst 1, 462, 0), (.iand, 463, 0), (.iconst 1, 464, 0), (.if_icmp .ne 7, 465, 472), (.iconst 1, 468, 0), (.goto 4, 469, 473)], 472) := rfl
theorem l_Mo_readPart_472 : q_bk B_Mo_readPart 472 = some ([(.iconst 0, 472, 0)], 473) := rfl
theorem l_Mo_readPart_473 : q_bk B_Mo_readPart 473 = some ([(.bastore, 473, 0), (.aload_n ⟨0, q_l04⟩, 474, 0), (.getfield 50, 475, 0), (.iload_n ⟨1, q_l14⟩, 478, 0), (.lload_n ⟨2, q_l24⟩, 479, 0), (.ldc2_w 126, 480, 0), (.iload 11, 483, 0), (.i2l, 485, 0), (.lmul, 486, 0), (.ladd, 487, 0), (.l2i, 488, 0), (.iastore, 489, 0), (.aload_n ⟨0, q_l04⟩, 490, 0), (.getfield 105, 491, 0), (.ifCond .eq 7, 494, 501), (.iconst 0, 497, 0), (.goto 5, 498, 503)], 501) := rfl
theorem l_Mo_readPart_501 : q_bk B_Mo_readPart 501 = some ([(.iload 5, 501, 0)], 503) := rfl
theorem l_Mo_readPart_503 : q_bk B_Mo_readPart 503 = some ([(.ireturn, 503, 0)], 504) := rfl
def b_Mo_number_0 : List (Instr × Nat × Nat) × Nat := ([(.iload 4, 0, 0), (.ifCond .eq 24, 2, 26), (.aload_n ⟨0, q_l04⟩, 5, 0), (.aload_n ⟨0, q_l04⟩, 6, 0), (.getfield 53, 7, 0), (.iload_n ⟨1, q_l14⟩, 10, 0), (.iaload, 11, 0), (.aload_n ⟨0, q_l04⟩, 12, 0), (.getfield 56, 13, 0), (.iload_n ⟨1, q_l14⟩, 16, 0), (.iaload, 17, 0), (.i2l, 18, 0), (.lload_n ⟨2, q_l24⟩, 19, 0), (.invokevirtual 120, 20, 0), (.goto 21, 23, 44)], 26)
def b_Mo_number_26 : List (Instr × Nat × Nat) × Nat := ([(.aload_n ⟨0, q_l04⟩, 26, 0), (.aload_n ⟨0, q_l04⟩, 27, 0), (.getfield 53, 28, 0), (.iload_n ⟨1, q_l14⟩, 31, 0), (.iaload, 32, 0), (.aload_n ⟨0, q_l04⟩, 33, 0), (.getfield 56, 34, 0), (.iload_n ⟨1, q_l14⟩, 37, 0), (.iaload, 38, 0), (.i2l, 39, 0), (.lload_n ⟨2, q_l24⟩, 40, 0), (.invokevirtual 116, 41, 0)], 44)
def b_Mo_number_44 : List (Instr × Nat × Nat) × Nat := ([(.istore 6, 44, 0), (.iload 4, 46, 0), (.ifCond .eq 9, 48, 57), (.ldc_w 284, 51, 0), (.goto 6, 54, 60)], 57)
def b_Mo_number_57 : List (Instr × Nat × Nat) × Nat := ([(.sipush 128, 57, 0)], 60)
def b_Mo_number_60 : List (Instr × Nat × Nat) × Nat := ([(.istore 7, 60, 0), (.iload 5, 62, 0), (.ifCond .eq 20, 64, 84), (.iload 6, 67, 0), (.iload 7, 69, 0), (.if_icmp .lt 13, 71, 84), (.iload 6, 74, 0), (.iconst 2, 76, 0), (.iload 7, 77, 0), (.imul, 79, 0), (.isub, 80, 0), (.goto 5, 81, 86)], 84)
def b_Mo_number_84 : List (Instr × Nat × Nat) × Nat := ([(.iload 6, 84, 0)], 86)
def b_Mo_number_86 : List (Instr × Nat × Nat) × Nat := ([(.ireturn, 86, 0)], 87)
def B_Mo_number : q_B := [(0, b_Mo_number_0), (26, b_Mo_number_26), (44, b_Mo_number_44), (57, b_Mo_number_57), (60, b_Mo_number_60), (84, b_Mo_number_84), (86, b_Mo_number_86)]
theorem o_Mo_number : q_okC M_Mo_number B_Mo_number = true := by decide +kernel
theorem u_Mo_number : q_okM M_Mo_number = true := by decide +kernel
theorem l_Mo_number_0 : q_bk B_Mo_number 0 = some ([(.iload 4, 0, 0), (.ifCond .eq 24, 2, 26), (.aload_n ⟨0, q_l04⟩, 5, 0), (.aload_n ⟨0, q_l04⟩, 6, 0), (.getfield 53, 7, 0), (.iload_n ⟨1, q_l14⟩, 10, 0), (.iaload, 11, 0), (.aload_n ⟨0, q_l04⟩, 12, 0), (.getfield 56, 13, 0), (.iload_n ⟨1, q_l14⟩, 16, 0), (.iaload, 17, 0), (.i2l, 18, 0), (.lload_n ⟨2, q_l24⟩, 19, 0), (.invokevirtual 120, 20, 0), (.goto 21, 23, 44)], 26) := rfl
theorem l_Mo_number_26 : q_bk B_Mo_number 26 = some ([(.aload_n ⟨0, q_l04⟩, 26, 0), (.aload_n ⟨0, q_l04⟩, 27, 0), (.getfield 53, 28, 0), (.iload_n ⟨1, q_l14⟩, 31, 0), (.iaload, 32, 0), (.aload_n ⟨0, q_l04⟩, 33, 0), (.getfield 56, 34, 0), (.iload_n ⟨1, q_l14⟩, 37, 0), (.iaload, 38, 0), (.i2l, 39, 0), (.lload_n ⟨2, q_l24⟩, 40, 0), (.invokevirtual 116, 41, 0)], 44) := rfl
theorem l_Mo_number_44 : q_bk B_Mo_number 44 = some ([(.istore 6, 44, 0), (.iload 4, 46, 0), (.ifCond .eq 9, 48, 57), (.ldc_w 284, 51, 0), (.goto 6, 54, 60)], 57) := rfl
theorem l_Mo_number_57 : q_bk B_Mo_number 57 = some ([(.sipush 128, 57, 0)], 60) := rfl
theorem l_Mo_number_60 : q_bk B_Mo_number 60 = some ([(.istore 7, 60, 0), (.iload 5, 62, 0), (.ifCond .eq 20, 64, 84), (.iload 6, 67, 0), (.iload 7, 69, 0), (.if_icmp .lt 13, 71, 84), (.iload 6, 74, 0), (.iconst 2, 76, 0), (.iload 7, 77, 0), (.imul, 79, 0), (.isub, 80, 0), (.goto 5, 81, 86)], 84) := rfl
theorem l_Mo_number_84 : q_bk B_Mo_number 84 = some ([(.iload 6, 84, 0)], 86) := rfl
theorem l_Mo_number_86 : q_bk B_Mo_number 86 = some ([(.ireturn, 86, 0)], 87) := rfl
def b_Mo_f16_0 : List (Instr × Nat × Nat) × Nat := ([(.aload_n ⟨0, q_l04⟩, 0, 0), (.aload_n ⟨0, q_l04⟩, 1, 0), (.getfield 53, 2, 0), (.iload_n ⟨1, q_l14⟩, 5, 0), (.iaload, 6, 0), (.aload_n ⟨0, q_l04⟩, 7, 0), (.getfield 56, 8, 0), (.iload_n ⟨1, q_l14⟩, 11, 0), (.iaload, 12, 0), (.i2l, 13, 0), (.lload_n ⟨2, q_l24⟩, 14, 0), (.invokevirtual 263, 15, 0), (.ireturn, 18, 0)], 19)
def B_Mo_f16 : q_B := [(0, b_Mo_f16_0)]
theorem o_Mo_f16 : q_okC M_Mo_f16 B_Mo_f16 = true := by decide +kernel
theorem u_Mo_f16 : q_okM M_Mo_f16 = true := by decide +kernel
theorem l_Mo_f16_0 : q_bk B_Mo_f16 0 = some ([(.aload_n ⟨0, q_l04⟩, 0, 0), (.aload_n ⟨0, q_l04⟩, 1, 0), (.getfield 53, 2, 0), (.iload_n ⟨1, q_l14⟩, 5, 0), (.iaload, 6, 0), (.aload_n ⟨0, q_l04⟩, 7, 0), (.getfield 56, 8, 0), (.iload_n ⟨1, q_l14⟩, 11, 0), (.iaload, 12, 0), (.i2l, 13, 0), (.lload_n ⟨2, q_l24⟩, 14, 0), (.invokevirtual 263, 15, 0), (.ireturn, 18, 0)], 19) := rfl
def b_Mo_join_0 : List (Instr × Nat × Nat) × Nat := ([(.aload_n ⟨0, q_l04⟩, 0, 0), (.getfield 41, 1, 0), (.iload_n ⟨1, q_l14⟩, 4, 0), (.iaload, 5, 0), (.istore_n ⟨2, q_l24⟩, 6, 0), (.aload_n ⟨0, q_l04⟩, 7, 0), (.getfield 41, 8, 0), (.iload_n ⟨1, q_l14⟩, 11, 0), (.iconst 1, 12, 0), (.iadd, 13, 0), (.iaload, 14, 0), (.istore_n ⟨3, q_l34⟩, 15, 0), (.sipush 512, 16, 0), (.iload_n ⟨1, q_l14⟩, 19, 0), (.iconst 1, 20, 0), (.iadd, 21, 0), (.imul, 22, 0), (.istore 4, 23, 0), (.sipush 512, 25, 0), (.iload_n ⟨1, q_l14⟩, 28, 0), (.imul, 29, 0), (.istore 5, 30, 0), (.aload_n ⟨0, q_l04⟩, 32, 0), (.getfield 65, 33, 0), (.iload_n ⟨1, q_l14⟩, 36, 0), (.iaload, 37, 0), (.i2l, 38, 0), (.lstore 6, 39, 0), (.aload_n ⟨0, q_l04⟩, 41, 0), (.getfield 68, 42, 0), (.iload_n ⟨1, q_l14⟩, 45, 0), (.iaload, 46, 0), (.i2l, 47, 0), (.lstore 8, 48, 0), (.aload_n ⟨0, q_l04⟩, 50, 0), (.getfield 62, 51, 0), (.iload_n ⟨1, q_l14⟩, 54, 0), (.iaload, 55, 0), (.iconst 1, 56, 0), (.ishr, 57, 0), (.iconst 1, 58, 0), (.iand, 59, 0), (.iconst 1, 60, 0), (.if_icmp .ne 7, 61, 68), (.iconst 1, 64, 0), (.goto 4, 65, 69)], 68)
def b_Mo_join_68 : List (Instr × Nat × Nat) × Nat := ([(.iconst 0, 68, 0)], 69)
def b_Mo_join_69 : List (Instr × Nat × Nat) × Nat := ([(.istore 10, 69, 0), (.iload 10, 71, 0), (.ifCond .eq 76, 73, 149), (.aload_n ⟨0, q_l04⟩, 76, 0), (.getfield 62, 77, 0), (.iload_n ⟨1, q_l14⟩, 80, 0), (.iaload, 81, 0), (.bipush 11, 82, 0), (.ishr, 84, 0), (.iconst 1, 85, 0), (.iand, 86, 0), (.iconst 1, 87, 0), (.if_icmp .ne 61, 88, 149), (.aload_n ⟨0, q_l04⟩, 91, 0), (.getfield 71, 92, 0), (.iload_n ⟨1, q_l14⟩, 95, 0), (.iaload, 96, 0), (.aload_n ⟨0, q_l04⟩, 97, 0), (.getfield 65, 98, 0), (.iload_n ⟨1, q_l14⟩, 101, 0), (.iaload, 102, 0), (.aload_n ⟨0, q_l04⟩, 103, 0), (.getfield 77, 104, 0), (.iload_n ⟨1, q_l14⟩, 107, 0), (.iaload, 108, 0), (.aload_n ⟨0, q_l04⟩, 109, 0), (.getfield 68, 110, 0), (.iload_n ⟨1, q_l14⟩, 113, 0), (.iaload, 114, 0), (.invokestatic 296, 115, 0), (.lstore 6, 118, 0), (.aload_n ⟨0, q_l04⟩, 120, 0), (.getfield 74, 121, 0), (.iload_n ⟨1, q_l14⟩, 124, 0), (.iaload, 125, 0), (.aload_n ⟨0, q_l04⟩, 126, 0), (.getfield 65, 127, 0), (.iload_n ⟨1, q_l14⟩, 130, 0), (.iaload, 131, 0), (.aload_n ⟨0, q_l04⟩, 132, 0), (.getfield 80, 133, 0), (.iload_n ⟨1, q_l14⟩, 136, 0), (.iaload, 137, 0), (.aload_n ⟨0, q_l04⟩, 138, 0), (.getfield 68, 139, 0), (.iload_n ⟨1, q_l14⟩, 142, 0), (.iaload, 143, 0), (.invokestatic 296, 144, 0), (.lstore 8, 147, 0)], 149)
def b_Mo_join_149 : List (Instr × Nat × Nat) × Nat := ([(.aload_n ⟨0, q_l04⟩, 149, 0), (.iload_n ⟨2, q_l24⟩, 150, 0), (.iload_n ⟨3, q_l34⟩, 151, 0), (.iadd, 152, 0), (.sipush 512, 153, 0), (.if_icmp .gt 32, 156, 188), (.iload 10, 159, 0), (.ifCond .ne 23, 161, 184), (.aload_n ⟨0, q_l04⟩, 164, 0), (.getfield 65, 165, 0), (.iload_n ⟨1, q_l14⟩, 168, 0), (.iaload, 169, 0), (.iload_n ⟨2, q_l24⟩, 170, 0), (.if_icmp .ge 17, 171, 188), (.aload_n ⟨0, q_l04⟩, 174, 0), (.getfield 68, 175, 0), (.iload_n ⟨1, q_l14⟩, 178, 0), (.iaload, 179, 0), (.iload_n ⟨3, q_l34⟩, 180, 0), (.if_icmp .ge 7, 181, 188)], 184)
def b_Mo_join_184 : List (Instr × Nat × Nat) × Nat := ([(.iconst 1, 184, 0), (.goto 4, 185, 189)], 188)
def b_Mo_join_188 : List (Instr × Nat × Nat) × Nat := ([(.iconst 0, 188, 0)], 189)
def b_Mo_join_189 : List (Instr × Nat × Nat) × Nat := ([(.invokevirtual 109, 189, 0), (.aload_n ⟨0, q_l04⟩, 192, 0), (.getfield 105, 193, 0), (.ifCond .eq 4, 196, 200), (.return_, 199, 0)], 200)
def b_Mo_join_200 : List (Instr × Nat × Nat) × Nat := ([(.iload 10, 200, 0), (.ifCond .ne 108, 202, 310), (.iload 4, 205, 0), (.aload_n ⟨0, q_l04⟩, 207, 0), (.getfield 68, 208, 0), (.iload_n ⟨1, q_l14⟩, 211, 0), (.iaload, 212, 0), (.iadd, 213, 0), (.istore 11, 214, 0), (.aload_n ⟨0, q_l04⟩, 216, 0), (.getfield 25, 217, 0), (.iload 5, 220, 0), (.aload_n ⟨0, q_l04⟩, 222, 0), (.getfield 65, 223, 0), (.iload_n ⟨1, q_l14⟩, 226, 0), (.iaload, 227, 0), (.iadd, 228, 0), (.iaload, 229, 0), (.i2l, 230, 0), (.aload_n ⟨0, q_l04⟩, 231, 0), (.getfield 71, 232, 0), (.iload_n ⟨1, q_l14⟩, 235, 0), (.iaload, 236, 0), (.aload_n ⟨0, q_l04⟩, 237, 0), (.getfield 25, 238, 0), (.iload 11, 241, 0), (.iaload, 243, 0), (.aload_n ⟨0, q_l04⟩, 244, 0), (.getfield 77, 245, 0), (.iload_n ⟨1, q_l14⟩, 248, 0), (.iaload, 249, 0), (.aload_n ⟨0, q_l04⟩, 250, 0), (.getfield 28, 251, 0), (.iload 11, 254, 0), (.iaload, 256, 0), (.invokestatic 296, 257, 0), (.lsub, 260, 0), (.lstore 6, 261, 0), (.aload_n ⟨0, q_l04⟩, 263, 0), (.getfield 28, 264, 0), (.iload 5, 267, 0), (.aload_n ⟨0, q_l04⟩, 269, 0), (.getfield 65, 270, 0), (.iload_n ⟨1, q_l14⟩, 273, 0), (.iaload, 274, 0), (.iadd, 275, 0), (.iaload, 276, 0), (.i2l, 277, 0), (.aload_n ⟨0, q_l04⟩, 278, 0), (.getfield 74, 279, 0), (.iload_n ⟨1, q_l14⟩, 282, 0), (.iaload, 283, 0), (.aload_n ⟨0, q_l04⟩, 284, 0), (.getfield 25, 285, 0), (.iload 11, 288, 0), (.iaload, 290, 0), (.aload_n ⟨0, q_l04⟩, 291, 0), (.getfield 80, 292, 0), (.iload_n ⟨1, q_l14⟩, 295, 0), (.iaload, 296, 0), (.aload_n ⟨0, q_l04⟩, 297, 0), (.getfield 28, 298, 0), (.iload 11, 301, 0), (.iaload, 303, 0), (.invokestatic 296, 304, 0), (.lsub, 307, 0), (.lstore 8, 308, 0)], 310)
def b_Mo_join_310 : List (Instr × Nat × Nat) × Nat := ([(.iconst 0, 310, 0), (.istore 11, 311, 0)], 313)
def b_Mo_join_313 : List (Instr × Nat × Nat) × Nat := ([(.iload 11, 313, 0), (.iload_n ⟨3, q_l34⟩, 315, 0), (.if_icmp .ge 195, 316, 511), (.lload 6, 319, 0), (.aload_n ⟨0, q_l04⟩, 321, 0), (.getfield 71, 322, 0), (.iload_n ⟨1, q_l14⟩, 325, 0), (.iaload, 326, 0), (.aload_n ⟨0, q_l04⟩, 327, 0), (.getfield 25, 328, 0), (.iload 4, 331, 0), (.iload 11, 333, 0), (.iadd, 335, 0), (.iaload, 336, 0), (.aload_n ⟨0, q_l04⟩, 337, 0), (.getfield 77, 338, 0), (.iload_n ⟨1, q_l14⟩, 341, 0), (.iaload, 342, 0), (.aload_n ⟨0, q_l04⟩, 343, 0), (.getfield 28, 344, 0), (.iload 4, 347, 0), (.iload 11, 349, 0), (.iadd, 351, 0), (.iaload, 352, 0), (.invokestatic 296, 353, 0), (.ladd, 356, 0), (.lstore 12, 357, 0), (.lload 8, 359, 0), (.aload_n ⟨0, q_l04⟩, 361, 0), (.getfield 74, 362, 0), (.iload_n ⟨1, q_l14⟩, 365, 0), (.iaload, 366, 0), (.aload_n ⟨0, q_l04⟩, 367, 0), (.getfield 25, 368, 0), (.iload 4, 371, 0), (.iload 11, 373, 0), (.iadd, 375, 0), (.iaload, 376, 0), (.aload_n ⟨0, q_l04⟩, 377, 0), (.getfield 80, 378, 0), (.iload_n ⟨1, q_l14⟩, 381, 0), (.iaload, 382, 0), (.aload_n ⟨0, q_l04⟩, 383, 0), (.getfield 28, 384, 0), (.iload 4, 387, 0), (.iload 11, 389, 0), (.iadd, 391, 0), (.iaload, 392, 0), (.invokestatic 296, 393, 0), (.ladd, 396, 0), (.lstore 14, 397, 0), (.aload_n ⟨0, q_l04⟩, 399, 0), (.lload 12, 400, 0), (.invokestatic 280, 402, 0), (.ifCond .eq 15, 405, 420), (.lload 14, 408, 0), (.invokestatic 280, 410, 0), (.ifCond .eq 7, 413, 420), (.iconst 1, 416, 0), (.goto 4, 417, 421)], 420)
def b_Mo_join_420 : List (Instr × Nat × Nat) × Nat := ([(.iconst 0, 420, 0)], 421)
def b_Mo_join_421 : List (Instr × Nat × Nat) × Nat := ([(.invokevirtual 109, 421, 0), (.aload_n ⟨0, q_l04⟩, 424, 0), (.getfield 25, 425, 0), (.iload 5, 428, 0), (.iload_n ⟨2, q_l24⟩, 430, 0), (.iadd, 431, 0), (.iload 11, 432, 0), (.iadd, 434, 0), (.lload 12, 435, 0), (.l2i, 437, 0), (.iastore, 438, 0), (.aload_n ⟨0, q_l04⟩, 439, 0), (.getfield 28, 440, 0), (.iload 5, 443, 0), (.iload_n ⟨2, q_l24⟩, 445, 0), (.iadd, 446, 0), (.iload 11, 447, 0), (.iadd, 449, 0), (.lload 14, 450, 0), (.l2i, 452, 0), (.iastore, 453, 0), (.aload_n ⟨0, q_l04⟩, 454, 0), (.getfield 31, 455, 0), (.iload 5, 458, 0), (.iload_n ⟨2, q_l24⟩, 460, 0), (.iadd, 461, 0), (.iload 11, 462, 0), (.iadd, 464, 0), (.aload_n ⟨0, q_l04⟩, 465, 0), (.getfield 31, 466, 0), (.iload 4, 469, 0), (.iload 11, 471, 0), (.iadd, 473, 0), (.baload, 474, 0), (.bastore, 475, 0), (.aload_n ⟨0, q_l04⟩, 476, 0), (.getfield 35, 477, 0), (.iload 5, 480, 0), (.iload_n ⟨2, q_l24⟩, 482, 0), (.iadd, 483, 0), (.iload 11, 484, 0), (.iadd, 486, 0), (.aload_n ⟨0, q_l04⟩, 487, 0), (.getfield 44, 488, 0), (.iload_n ⟨1, q_l14⟩, 491, 0), (.iaload, 492, 0), (.aload_n ⟨0, q_l04⟩, 493, 0), (.getfield 35, 494, 0), (.iload 4, 497, 0), (.iload 11, 499, 0), (.iadd, 501, 0), (.iaload, 502, 0), (.iadd, 503, 0), (.iastore, 504, 0), (.iinc 11 1, 505, 0), (.goto (-195), 508, 313)], 511)
def b_Mo_join_511 : List (Instr × Nat × Nat) × Nat := ([(.aload_n ⟨0, q_l04⟩, 511, 0), (.getfield 41, 512, 0), (.iload_n ⟨1, q_l14⟩, 515, 0), (.iload_n ⟨2, q_l24⟩, 516, 0), (.iload_n ⟨3, q_l34⟩, 517, 0), (.iadd, 518, 0), (.iastore, 519, 0), (.aload_n ⟨0, q_l04⟩, 520, 0), (.getfield 44, 521, 0), (.iload_n ⟨1, q_l14⟩, 524, 0), (.aload_n ⟨0, q_l04⟩, 525, 0), (.getfield 44, 526, 0), (.iload_n ⟨1, q_l14⟩, 529, 0), (.iaload, 530, 0), (.aload_n ⟨0, q_l04⟩, 531, 0), (.getfield 44, 532, 0), (.iload_n ⟨1, q_l14⟩, 535, 0), (.iconst 1, 536, 0), (.iadd, 537, 0), (.iaload, 538, 0), (.iadd, 539, 0), (.iastore, 540, 0), (.return_, 541, 0)], 542)
def B_Mo_join : q_B := [(0, b_Mo_join_0), (68, b_Mo_join_68), (69, b_Mo_join_69), (149, b_Mo_join_149), (184, b_Mo_join_184), (188, b_Mo_join_188), (189, b_Mo_join_189), (200, b_Mo_join_200), (310, b_Mo_join_310), (313, b_Mo_join_313), (420, b_Mo_join_420), (421, b_Mo_join_421), (511, b_Mo_join_511)]
theorem o_Mo_join : q_okC M_Mo_join B_Mo_join = true := by decide +kernel
theorem u_Mo_join : q_okM M_Mo_join = true := by decide +kernel
theorem l_Mo_join_0 : q_bk B_Mo_join 0 = some ([(.aload_n ⟨0, q_l04⟩, 0, 0), (.getfield 41, 1, 0), (.iload_n ⟨1, q_l14⟩, 4, 0), (.iaload, 5, 0), (.istore_n ⟨2, q_l24⟩, 6, 0), (.aload_n ⟨0, q_l04⟩, 7, 0), (.getfield 41, 8, 0), (.iload_n ⟨1, q_l14⟩, 11, 0), (.iconst 1, 12, 0), (.iadd, 13, 0), (.iaload, 14, 0), (.istore_n ⟨3, q_l34⟩, 15, 0), (.sipush 512, 16, 0), (.iload_n ⟨1, q_l14⟩, 19, 0), (.iconst 1, 20, 0), (.iadd, 21, 0), (.imul, 22, 0), (.istore 4, 23, 0), (.sipush 512, 25, 0), (.iload_n ⟨1, q_l14⟩, 28, 0), (.imul, 29, 0), (.istore 5, 30, 0), (.aload_n ⟨0, q_l04⟩, 32, 0), (.getfield 65, 33, 0), (.iload_n ⟨1, q_l14⟩, 36, 0), (.iaload, 37, 0), (.i2l, 38, 0), (.lstore 6, 39, 0), (.aload_n ⟨0, q_l04⟩, 41, 0), (.getfield 68, 42, 0), (.iload_n ⟨1, q_l14⟩, 45, 0), (.iaload, 46, 0), (.i2l, 47, 0), (.lstore 8, 48, 0), (.aload_n ⟨0, q_l04⟩, 50, 0), (.getfield 62, 51, 0), (.iload_n ⟨1, q_l14⟩, 54, 0), (.iaload, 55, 0), (.iconst 1, 56, 0), (.ishr, 57, 0), (.iconst 1, 58, 0), (.iand, 59, 0), (.iconst 1, 60, 0), (.if_icmp .ne 7, 61, 68), (.iconst 1, 64, 0), (.goto 4, 65, 69)], 68) := rfl
theorem l_Mo_join_68 : q_bk B_Mo_join 68 = some ([(.iconst 0, 68, 0)], 69) := rfl
theorem l_Mo_join_69 : q_bk B_Mo_join 69 = some ([(.istore 10, 69, 0), (.iload 10, 71, 0), (.ifCond .eq 76, 73, 149), (.aload_n ⟨0, q_l04⟩, 76, 0), (.getfield 62, 77, 0), (.iload_n ⟨1, q_l14⟩, 80, 0), (.iaload, 81, 0), (.bipush 11, 82, 0), (.ishr, 84, 0), (.iconst 1, 85, 0), (.iand, 86, 0), (.iconst 1, 87, 0), (.if_icmp .ne 61, 88, 149), (.aload_n ⟨0, q_l04⟩, 91, 0), (.getfield 71, 92, 0), (.iload_n ⟨1, q_l14⟩, 95, 0), (.iaload, 96, 0), (.aload_n ⟨0, q_l04⟩, 97, 0), (.getfield 65, 98, 0), (.iload_n ⟨1, q_l14⟩, 101, 0), (.iaload, 102, 0), (.aload_n ⟨0, q_l04⟩, 103, 0), (.getfield 77, 104, 0), (.iload_n ⟨1, q_l14⟩, 107, 0), (.iaload, 108, 0), (.aload_n ⟨0, q_l04⟩, 109, 0), (.getfield 68, 110, 0), (.iload_n ⟨1, q_l14⟩, 113, 0), (.iaload, 114, 0), (.invokestatic 296, 115, 0), (.lstore 6, 118, 0), (.aload_n ⟨0, q_l04⟩, 120, 0), (.getfield 74, 121, 0), (.iload_n ⟨1, q_l14⟩, 124, 0), (.iaload, 125, 0), (.aload_n ⟨0, q_l04⟩, 126, 0), (.getfield 65, 127, 0), (.iload_n ⟨1, q_l14⟩, 130, 0), (.iaload, 131, 0), (.aload_n ⟨0, q_l04⟩, 132, 0), (.getfield 80, 133, 0), (.iload_n ⟨1, q_l14⟩, 136, 0), (.iaload, 137, 0), (.aload_n ⟨0, q_l04⟩, 138, 0), (.getfield 68, 139, 0), (.iload_n ⟨1, q_l14⟩, 142, 0), (.iaload, 143, 0), (.invokestatic 296, 144, 0), (.lstore 8, 147, 0)], 149) := rfl
theorem l_Mo_join_149 : q_bk B_Mo_join 149 = some ([(.aload_n ⟨0, q_l04⟩, 149, 0), (.iload_n ⟨2, q_l24⟩, 150, 0), (.iload_n ⟨3, q_l34⟩, 151, 0), (.iadd, 152, 0), (.sipush 512, 153, 0), (.if_icmp .gt 32, 156, 188), (.iload 10, 159, 0), (.ifCond .ne 23, 161, 184), (.aload_n ⟨0, q_l04⟩, 164, 0), (.getfield 65, 165, 0), (.iload_n ⟨1, q_l14⟩, 168, 0), (.iaload, 169, 0), (.iload_n ⟨2, q_l24⟩, 170, 0), (.if_icmp .ge 17, 171, 188), (.aload_n ⟨0, q_l04⟩, 174, 0), (.getfield 68, 175, 0), (.iload_n ⟨1, q_l14⟩, 178, 0), (.iaload, 179, 0), (.iload_n ⟨3, q_l34⟩, 180, 0), (.if_icmp .ge 7, 181, 188)], 184) := rfl
theorem l_Mo_join_184 : q_bk B_Mo_join 184 = some ([(.iconst 1, 184, 0), (.goto 4, 185, 189)], 188) := rfl
theorem l_Mo_join_188 : q_bk B_Mo_join 188 = some ([(.iconst 0, 188, 0)], 189) := rfl
theorem l_Mo_join_189 : q_bk B_Mo_join 189 = some ([(.invokevirtual 109, 189, 0), (.aload_n ⟨0, q_l04⟩, 192, 0), (.getfield 105, 193, 0), (.ifCond .eq 4, 196, 200), (.return_, 199, 0)], 200) := rfl
theorem l_Mo_join_200 : q_bk B_Mo_join 200 = some ([(.iload 10, 200, 0), (.ifCond .ne 108, 202, 310), (.iload 4, 205, 0), (.aload_n ⟨0, q_l04⟩, 207, 0), (.getfield 68, 208, 0), (.iload_n ⟨1, q_l14⟩, 211, 0), (.iaload, 212, 0), (.iadd, 213, 0), (.istore 11, 214, 0), (.aload_n ⟨0, q_l04⟩, 216, 0), (.getfield 25, 217, 0), (.iload 5, 220, 0), (.aload_n ⟨0, q_l04⟩, 222, 0), (.getfield 65, 223, 0), (.iload_n ⟨1, q_l14⟩, 226, 0), (.iaload, 227, 0), (.iadd, 228, 0), (.iaload, 229, 0), (.i2l, 230, 0), (.aload_n ⟨0, q_l04⟩, 231, 0), (.getfield 71, 232, 0), (.iload_n ⟨1, q_l14⟩, 235, 0), (.iaload, 236, 0), (.aload_n ⟨0, q_l04⟩, 237, 0), (.getfield 25, 238, 0), (.iload 11, 241, 0), (.iaload, 243, 0), (.aload_n ⟨0, q_l04⟩, 244, 0), (.getfield 77, 245, 0), (.iload_n ⟨1, q_l14⟩, 248, 0), (.iaload, 249, 0), (.aload_n ⟨0, q_l04⟩, 250, 0), (.getfield 28, 251, 0), (.iload 11, 254, 0), (.iaload, 256, 0), (.invokestatic 296, 257, 0), (.lsub, 260, 0), (.lstore 6, 261, 0), (.aload_n ⟨0, q_l04⟩, 263, 0), (.getfield 28, 264, 0), (.iload 5, 267, 0), (.aload_n ⟨0, q_l04⟩, 269, 0), (.getfield 65, 270, 0), (.iload_n ⟨1, q_l14⟩, 273, 0), (.iaload, 274, 0), (.iadd, 275, 0), (.iaload, 276, 0), (.i2l, 277, 0), (.aload_n ⟨0, q_l04⟩, 278, 0), (.getfield 74, 279, 0), (.iload_n ⟨1, q_l14⟩, 282, 0), (.iaload, 283, 0), (.aload_n ⟨0, q_l04⟩, 284, 0), (.getfield 25, 285, 0), (.iload 11, 288, 0), (.iaload, 290, 0), (.aload_n ⟨0, q_l04⟩, 291, 0), (.getfield 80, 292, 0), (.iload_n ⟨1, q_l14⟩, 295, 0), (.iaload, 296, 0), (.aload_n ⟨0, q_l04⟩, 297, 0), (.getfield 28, 298, 0), (.iload 11, 301, 0), (.iaload, 303, 0), (.invokestatic 296, 304, 0), (.lsub, 307, 0), (.lstore 8, 308, 0)], 310) := rfl
theorem l_Mo_join_310 : q_bk B_Mo_join 310 = some ([(.iconst 0, 310, 0), (.istore 11, 311, 0)], 313) := rfl
theorem l_Mo_join_313 : q_bk B_Mo_join 313 = some ([(.iload 11, 313, 0), (.iload_n ⟨3, q_l34⟩, 315, 0), (.if_icmp .ge 195, 316, 511), (.lload 6, 319, 0), (.aload_n ⟨0, q_l04⟩, 321, 0), (.getfield 71, 322, 0), (.iload_n ⟨1, q_l14⟩, 325, 0), (.iaload, 326, 0), (.aload_n ⟨0, q_l04⟩, 327, 0), (.getfield 25, 328, 0), (.iload 4, 331, 0), (.iload 11, 333, 0), (.iadd, 335, 0), (.iaload, 336, 0), (.aload_n ⟨0, q_l04⟩, 337, 0), (.getfield 77, 338, 0), (.iload_n ⟨1, q_l14⟩, 341, 0), (.iaload, 342, 0), (.aload_n ⟨0, q_l04⟩, 343, 0), (.getfield 28, 344, 0), (.iload 4, 347, 0), (.iload 11, 349, 0), (.iadd, 351, 0), (.iaload, 352, 0), (.invokestatic 296, 353, 0), (.ladd, 356, 0), (.lstore 12, 357, 0), (.lload 8, 359, 0), (.aload_n ⟨0, q_l04⟩, 361, 0), (.getfield 74, 362, 0), (.iload_n ⟨1, q_l14⟩, 365, 0), (.iaload, 366, 0), (.aload_n ⟨0, q_l04⟩, 367, 0), (.getfield 25, 368, 0), (.iload 4, 371, 0), (.iload 11, 373, 0), (.iadd, 375, 0), (.iaload, 376, 0), (.aload_n ⟨0, q_l04⟩, 377, 0), (.getfield 80, 378, 0), (.iload_n ⟨1, q_l14⟩, 381, 0), (.iaload, 382, 0), (.aload_n ⟨0, q_l04⟩, 383, 0), (.getfield 28, 384, 0), (.iload 4, 387, 0), (.iload 11, 389, 0), (.iadd, 391, 0), (.iaload, 392, 0), (.invokestatic 296, 393, 0), (.ladd, 396, 0), (.lstore 14, 397, 0), (.aload_n ⟨0, q_l04⟩, 399, 0), (.lload 12, 400, 0), (.invokestatic 280, 402, 0), (.ifCond .eq 15, 405, 420), (.lload 14, 408, 0), (.invokestatic 280, 410, 0), (.ifCond .eq 7, 413, 420), (.iconst 1, 416, 0), (.goto 4, 417, 421)], 420) := rfl
theorem l_Mo_join_420 : q_bk B_Mo_join 420 = some ([(.iconst 0, 420, 0)], 421) := rfl
theorem l_Mo_join_421 : q_bk B_Mo_join 421 = some ([(.invokevirtual 109, 421, 0), (.aload_n ⟨0, q_l04⟩, 424, 0), (.getfield 25, 425, 0), (.iload 5, 428, 0), (.iload_n ⟨2, q_l24⟩, 430, 0), (.iadd, 431, 0), (.iload 11, 432, 0), (.iadd, 434, 0), (.lload 12, 435, 0), (.l2i, 437, 0), (.iastore, 438, 0), (.aload_n ⟨0, q_l04⟩, 439, 0), (.getfield 28, 440, 0), (.iload 5, 443, 0), (.iload_n ⟨2, q_l24⟩, 445, 0), (.iadd, 446, 0), (.iload 11, 447, 0), (.iadd, 449, 0), (.lload 14, 450, 0), (.l2i, 452, 0), (.iastore, 453, 0), (.aload_n ⟨0, q_l04⟩, 454, 0), (.getfield 31, 455, 0), (.iload 5, 458, 0), (.iload_n ⟨2, q_l24⟩, 460, 0), (.iadd, 461, 0), (.iload 11, 462, 0), (.iadd, 464, 0), (.aload_n ⟨0, q_l04⟩, 465, 0), (.getfield 31, 466, 0), (.iload 4, 469, 0), (.iload 11, 471, 0), (.iadd, 473, 0), (.baload, 474, 0), (.bastore, 475, 0), (.aload_n ⟨0, q_l04⟩, 476, 0), (.getfield 35, 477, 0), (.iload 5, 480, 0), (.iload_n ⟨2, q_l24⟩, 482, 0), (.iadd, 483, 0), (.iload 11, 484, 0), (.iadd, 486, 0), (.aload_n ⟨0, q_l04⟩, 487, 0), (.getfield 44, 488, 0), (.iload_n ⟨1, q_l14⟩, 491, 0), (.iaload, 492, 0), (.aload_n ⟨0, q_l04⟩, 493, 0), (.getfield 35, 494, 0), (.iload 4, 497, 0), (.iload 11, 499, 0), (.iadd, 501, 0), (.iaload, 502, 0), (.iadd, 503, 0), (.iastore, 504, 0), (.iinc 11 1, 505, 0), (.goto (-195), 508, 313)], 511) := rfl
theorem l_Mo_join_511 : q_bk B_Mo_join 511 = some ([(.aload_n ⟨0, q_l04⟩, 511, 0), (.getfield 41, 512, 0), (.iload_n ⟨1, q_l14⟩, 515, 0), (.iload_n ⟨2, q_l24⟩, 516, 0), (.iload_n ⟨3, q_l34⟩, 517, 0), (.iadd, 518, 0), (.iastore, 519, 0), (.aload_n ⟨0, q_l04⟩, 520, 0), (.getfield 44, 521, 0), (.iload_n ⟨1, q_l14⟩, 524, 0), (.aload_n ⟨0, q_l04⟩, 525, 0), (.getfield 44, 526, 0), (.iload_n ⟨1, q_l14⟩, 529, 0), (.iaload, 530, 0), (.aload_n ⟨0, q_l04⟩, 531, 0), (.getfield 44, 532, 0), (.iload_n ⟨1, q_l14⟩, 535, 0), (.iconst 1, 536, 0), (.iadd, 537, 0), (.iaload, 538, 0), (.iadd, 539, 0), (.iastore, 540, 0), (.return_, 541, 0)], 542) := rfl
def b_Mo_turned_0 : List (Instr × Nat × Nat) × Nat := ([(.iload_n ⟨0, q_l04⟩, 0, 0), (.i2l, 1, 0), (.iload_n ⟨1, q_l14⟩, 2, 0), (.i2l, 3, 0), (.lmul, 4, 0), (.iload_n ⟨2, q_l24⟩, 5, 0), (.i2l, 6, 0), (.iload_n ⟨3, q_l34⟩, 7, 0), (.i2l, 8, 0), (.lmul, 9, 0), (.ladd, 10, 0), (.lstore 4, 11, 0), (.lload 4, 13, 0), (.lconst ⟨0, q_l02⟩, 15, 0), (.lcmp, 16, 0), (.ifCond .lt 12, 17, 29), (.lload 4, 20, 0), (.ldc2_w 294, 22, 0), (.ldiv, 25, 0), (.goto 15, 26, 41)], 29)
def b_Mo_turned_29 : List (Instr × Nat × Nat) × Nat := ([(.lload 4, 29, 0), (.lneg, 31, 0), (.ldc2_w 245, 32, 0), (.ladd, 35, 0), (.ldc2_w 294, 36, 0), (.ldiv, 39, 0), (.lneg, 40, 0)], 41)
def b_Mo_turned_41 : List (Instr × Nat × Nat) × Nat := ([(.lreturn, 41, 0)], 42)
def B_Mo_turned : q_B := [(0, b_Mo_turned_0), (29, b_Mo_turned_29), (41, b_Mo_turned_41)]
theorem o_Mo_turned : q_okC M_Mo_turned B_Mo_turned = true := by decide +kernel
theorem u_Mo_turned : q_okM M_Mo_turned = true := by decide +kernel
theorem l_Mo_turned_0 : q_bk B_Mo_turned 0 = some ([(.iload_n ⟨0, q_l04⟩, 0, 0), (.i2l, 1, 0), (.iload_n ⟨1, q_l14⟩, 2, 0), (.i2l, 3, 0), (.lmul, 4, 0), (.iload_n ⟨2, q_l24⟩, 5, 0), (.i2l, 6, 0), (.iload_n ⟨3, q_l34⟩, 7, 0), (.i2l, 8, 0), (.lmul, 9, 0), (.ladd, 10, 0), (.lstore 4, 11, 0), (.lload 4, 13, 0), (.lconst ⟨0, q_l02⟩, 15, 0), (.lcmp, 16, 0), (.ifCond .lt 12, 17, 29), (.lload 4, 20, 0), (.ldc2_w 294, 22, 0), (.ldiv, 25, 0), (.goto 15, 26, 41)], 29) := rfl
theorem l_Mo_turned_29 : q_bk B_Mo_turned 29 = some ([(.lload 4, 29, 0), (.lneg, 31, 0), (.ldc2_w 245, 32, 0), (.ladd, 35, 0), (.ldc2_w 294, 36, 0), (.ldiv, 39, 0), (.lneg, 40, 0)], 41) := rfl
theorem l_Mo_turned_41 : q_bk B_Mo_turned 41 = some ([(.lreturn, 41, 0)], 42) := rfl
def b_Mo_glyph_0 : List (Instr × Nat × Nat) × Nat := ([(.aload_n ⟨0, q_l04⟩, 0, 0), (.aload_n ⟨0, q_l04⟩, 1, 0), (.getfield 230, 2, 0), (.ifCond .ne 7, 5, 12), (.iconst 1, 8, 0), (.goto 18, 9, 27)], 12)
def b_Mo_glyph_12 : List (Instr × Nat × Nat) × Nat := ([(.iload_n ⟨1, q_l14⟩, 12, 0), (.ifCond .lt 9, 13, 22), (.iload_n ⟨1, q_l14⟩, 16, 0), (.ldc 236, 17, 0), (.if_icmp .le 7, 19, 26)], 22)
def b_Mo_glyph_22 : List (Instr × Nat × Nat) × Nat := ([(.iconst 2, 22, 0), (.goto 4, 23, 27)], 26)
def b_Mo_glyph_26 : List (Instr × Nat × Nat) × Nat := ([(.iconst 0, 26, 0)], 27)
def b_Mo_glyph_27 : List (Instr × Nat × Nat) × Nat := ([(.invokevirtual 101, 27, 0), (.ifCond .eq 5, 30, 35), (.iconst 0, 33, 0), (.ireturn, 34, 0)], 35)
def b_Mo_glyph_35 : List (Instr × Nat × Nat) × Nat := ([(.aload_n ⟨0, q_l04⟩, 35, 0), (.iconst 1, 36, 0), (.putfield 113, 37, 0), (.aload_n ⟨0, q_l04⟩, 40, 0), (.getfield 233, 41, 0), (.ifCond .eq 11, 44, 55), (.aload_n ⟨0, q_l04⟩, 47, 0), (.iload_n ⟨1, q_l14⟩, 48, 0), (.invokevirtual 237, 49, 0), (.goto 8, 52, 60)], 55)
def b_Mo_glyph_55 : List (Instr × Nat × Nat) × Nat := ([(.aload_n ⟨0, q_l04⟩, 55, 0), (.iload_n ⟨1, q_l14⟩, 56, 0), (.invokevirtual 240, 57, 0)], 60)
def b_Mo_glyph_60 : List (Instr × Nat × Nat) × Nat := ([(.ireturn, 60, 0)], 61)
def B_Mo_glyph : q_B := [(0, b_Mo_glyph_0), (12, b_Mo_glyph_12), (22, b_Mo_glyph_22), (26, b_Mo_glyph_26), (27, b_Mo_glyph_27), (35, b_Mo_glyph_35), (55, b_Mo_glyph_55), (60, b_Mo_glyph_60)]
theorem o_Mo_glyph : q_okC M_Mo_glyph B_Mo_glyph = true := by decide +kernel
theorem u_Mo_glyph : q_okM M_Mo_glyph = true := by decide +kernel
theorem l_Mo_glyph_0 : q_bk B_Mo_glyph 0 = some ([(.aload_n ⟨0, q_l04⟩, 0, 0), (.aload_n ⟨0, q_l04⟩, 1, 0), (.getfield 230, 2, 0), (.ifCond .ne 7, 5, 12), (.iconst 1, 8, 0), (.goto 18, 9, 27)], 12) := rfl
theorem l_Mo_glyph_12 : q_bk B_Mo_glyph 12 = some ([(.iload_n ⟨1, q_l14⟩, 12, 0), (.ifCond .lt 9, 13, 22), (.iload_n ⟨1, q_l14⟩, 16, 0), (.ldc 236, 17, 0), (.if_icmp .le 7, 19, 26)], 22) := rfl
theorem l_Mo_glyph_22 : q_bk B_Mo_glyph 22 = some ([(.iconst 2, 22, 0), (.goto 4, 23, 27)], 26) := rfl
theorem l_Mo_glyph_26 : q_bk B_Mo_glyph 26 = some ([(.iconst 0, 26, 0)], 27) := rfl
theorem l_Mo_glyph_27 : q_bk B_Mo_glyph 27 = some ([(.invokevirtual 101, 27, 0), (.ifCond .eq 5, 30, 35), (.iconst 0, 33, 0), (.ireturn, 34, 0)], 35) := rfl
theorem l_Mo_glyph_35 : q_bk B_Mo_glyph 35 = some ([(.aload_n ⟨0, q_l04⟩, 35, 0), (.iconst 1, 36, 0), (.putfield 113, 37, 0), (.aload_n ⟨0, q_l04⟩, 40, 0), (.getfield 233, 41, 0), (.ifCond .eq 11, 44, 55), (.aload_n ⟨0, q_l04⟩, 47, 0), (.iload_n ⟨1, q_l14⟩, 48, 0), (.invokevirtual 237, 49, 0), (.goto 8, 52, 60)], 55) := rfl
theorem l_Mo_glyph_55 : q_bk B_Mo_glyph 55 = some ([(.aload_n ⟨0, q_l04⟩, 55, 0), (.iload_n ⟨1, q_l14⟩, 56, 0), (.invokevirtual 240, 57, 0)], 60) := rfl
theorem l_Mo_glyph_60 : q_bk B_Mo_glyph 60 = some ([(.ireturn, 60, 0)], 61) := rfl
def b_Mo_groupGlyph_0 : List (Instr × Nat × Nat) × Nat := ([(.aload_n ⟨0, q_l04⟩, 0, 0), (.iconst 1, 1, 0), (.invokevirtual 188, 2, 0), (.lstore_n ⟨2, q_l24⟩, 5, 0), (.aload_n ⟨0, q_l04⟩, 6, 0), (.iconst 0, 7, 0), (.lload_n ⟨2, q_l24⟩, 8, 0), (.ldc2_w 147, 9, 0), (.ladd, 12, 0), (.invokevirtual 169, 13, 0), (.lstore 4, 16, 0), (.lconst ⟨0, q_l02⟩, 18, 0), (.lstore 6, 19, 0), (.lconst ⟨0, q_l02⟩, 21, 0), (.lstore 8, 22, 0)], 24)
def b_Mo_groupGlyph_24 : List (Instr × Nat × Nat) × Nat := ([(.lload 8, 24, 0), (.lload 4, 26, 0), (.lcmp, 28, 0), (.ifCond .ge 100, 29, 129), (.lload_n ⟨2, q_l24⟩, 32, 0), (.ldc2_w 149, 33, 0), (.ladd, 36, 0), (.ldc2_w 147, 37, 0), (.lload 8, 40, 0), (.lmul, 42, 0), (.ladd, 43, 0), (.lstore 10, 44, 0), (.aload_n ⟨0, q_l04⟩, 46, 0), (.iconst 0, 47, 0), (.lload 10, 48, 0), (.invokevirtual 169, 50, 0), (.lstore 12, 53, 0), (.iload_n ⟨1, q_l14⟩, 55, 0), (.i2l, 56, 0), (.lload 12, 57, 0), (.lcmp, 59, 0), (.ifCond .lt 24, 60, 84), (.iload_n ⟨1, q_l14⟩, 63, 0), (.i2l, 64, 0), (.aload_n ⟨0, q_l04⟩, 65, 0), (.iconst 0, 66, 0), (.lload 10, 67, 0), (.ldc2_w 139, 69, 0), (.ladd, 72, 0), (.invokevirtual 169, 73, 0), (.lcmp, 76, 0), (.ifCond .gt 7, 77, 84), (.iconst 1, 80, 0), (.goto 4, 81, 85)], 84)
def b_Mo_groupGlyph_84 : List (Instr × Nat × Nat) × Nat := ([(.iconst 0, 84, 0)], 85)
def b_Mo_groupGlyph_85 : List (Instr × Nat × Nat) × Nat := ([(.istore 14, 85, 0), (.iload 14, 87, 0), (.ifCond .eq 27, 89, 116), (.aload_n ⟨0, q_l04⟩, 92, 0), (.iconst 0, 93, 0), (.lload 10, 94, 0), (.ldc2_w 151, 96, 0), (.ladd, 99, 0), (.invokevirtual 169, 100, 0), (.iload_n ⟨1, q_l14⟩, 103, 0), (.i2l, 104, 0), (.ladd, 105, 0), (.lload 12, 106, 0), (.lsub, 108, 0), (.ldc2_w 155, 109, 0), (.land, 112, 0), (.goto 5, 113, 118)], 116)
def b_Mo_groupGlyph_116 : List (Instr × Nat × Nat) × Nat := ([(.lload 6, 116, 0)], 118)
def b_Mo_groupGlyph_118 : List (Instr × Nat × Nat) × Nat := ([(.lstore 6, 118, 0), (.lload 8, 120, 0), (.lconst ⟨1, q_l12⟩, 122, 0), (.ladd, 123, 0), (.lstore 8, 124, 0), (.goto (-102), 126, 24)], 129)
def b_Mo_groupGlyph_129 : List (Instr × Nat × Nat) × Nat := ([(.lload 6, 129, 0), (.aload_n ⟨0, q_l04⟩, 131, 0), (.invokevirtual 175, 132, 0), (.i2l, 135, 0), (.lcmp, 136, 0), (.ifCond .ge 9, 137, 146), (.lload 6, 140, 0), (.l2i, 142, 0), (.goto 4, 143, 147)], 146)
def b_Mo_groupGlyph_146 : List (Instr × Nat × Nat) × Nat := ([(.iconst 0, 146, 0)], 147)
def b_Mo_groupGlyph_147 : List (Instr × Nat × Nat) × Nat := ([(.ireturn, 147, 0)], 148)
def B_Mo_groupGlyph : q_B := [(0, b_Mo_groupGlyph_0), (24, b_Mo_groupGlyph_24), (84, b_Mo_groupGlyph_84), (85, b_Mo_groupGlyph_85), (116, b_Mo_groupGlyph_116), (118, b_Mo_groupGlyph_118), (129, b_Mo_groupGlyph_129), (146, b_Mo_groupGlyph_146), (147, b_Mo_groupGlyph_147)]
theorem o_Mo_groupGlyph : q_okC M_Mo_groupGlyph B_Mo_groupGlyph = true := by decide +kernel
theorem u_Mo_groupGlyph : q_okM M_Mo_groupGlyph = true := by decide +kernel
theorem l_Mo_groupGlyph_0 : q_bk B_Mo_groupGlyph 0 = some ([(.aload_n ⟨0, q_l04⟩, 0, 0), (.iconst 1, 1, 0), (.invokevirtual 188, 2, 0), (.lstore_n ⟨2, q_l24⟩, 5, 0), (.aload_n ⟨0, q_l04⟩, 6, 0), (.iconst 0, 7, 0), (.lload_n ⟨2, q_l24⟩, 8, 0), (.ldc2_w 147, 9, 0), (.ladd, 12, 0), (.invokevirtual 169, 13, 0), (.lstore 4, 16, 0), (.lconst ⟨0, q_l02⟩, 18, 0), (.lstore 6, 19, 0), (.lconst ⟨0, q_l02⟩, 21, 0), (.lstore 8, 22, 0)], 24) := rfl
theorem l_Mo_groupGlyph_24 : q_bk B_Mo_groupGlyph 24 = some ([(.lload 8, 24, 0), (.lload 4, 26, 0), (.lcmp, 28, 0), (.ifCond .ge 100, 29, 129), (.lload_n ⟨2, q_l24⟩, 32, 0), (.ldc2_w 149, 33, 0), (.ladd, 36, 0), (.ldc2_w 147, 37, 0), (.lload 8, 40, 0), (.lmul, 42, 0), (.ladd, 43, 0), (.lstore 10, 44, 0), (.aload_n ⟨0, q_l04⟩, 46, 0), (.iconst 0, 47, 0), (.lload 10, 48, 0), (.invokevirtual 169, 50, 0), (.lstore 12, 53, 0), (.iload_n ⟨1, q_l14⟩, 55, 0), (.i2l, 56, 0), (.lload 12, 57, 0), (.lcmp, 59, 0), (.ifCond .lt 24, 60, 84), (.iload_n ⟨1, q_l14⟩, 63, 0), (.i2l, 64, 0), (.aload_n ⟨0, q_l04⟩, 65, 0), (.iconst 0, 66, 0), (.lload 10, 67, 0), (.ldc2_w 139, 69, 0), (.ladd, 72, 0), (.invokevirtual 169, 73, 0), (.lcmp, 76, 0), (.ifCond .gt 7, 77, 84), (.iconst 1, 80, 0), (.goto 4, 81, 85)], 84) := rfl
theorem l_Mo_groupGlyph_84 : q_bk B_Mo_groupGlyph 84 = some ([(.iconst 0, 84, 0)], 85) := rfl
theorem l_Mo_groupGlyph_85 : q_bk B_Mo_groupGlyph 85 = some ([(.istore 14, 85, 0), (.iload 14, 87, 0), (.ifCond .eq 27, 89, 116), (.aload_n ⟨0, q_l04⟩, 92, 0), (.iconst 0, 93, 0), (.lload 10, 94, 0), (.ldc2_w 151, 96, 0), (.ladd, 99, 0), (.invokevirtual 169, 100, 0), (.iload_n ⟨1, q_l14⟩, 103, 0), (.i2l, 104, 0), (.ladd, 105, 0), (.lload 12, 106, 0), (.lsub, 108, 0), (.ldc2_w 155, 109, 0), (.land, 112, 0), (.goto 5, 113, 118)], 116) := rfl
theorem l_Mo_groupGlyph_116 : q_bk B_Mo_groupGlyph 116 = some ([(.lload 6, 116, 0)], 118) := rfl
theorem l_Mo_groupGlyph_118 : q_bk B_Mo_groupGlyph 118 = some ([(.lstore 6, 118, 0), (.lload 8, 120, 0), (.lconst ⟨1, q_l12⟩, 122, 0), (.ladd, 123, 0), (.lstore 8, 124, 0), (.goto (-102), 126, 24)], 129) := rfl
theorem l_Mo_groupGlyph_129 : q_bk B_Mo_groupGlyph 129 = some ([(.lload 6, 129, 0), (.aload_n ⟨0, q_l04⟩, 131, 0), (.invokevirtual 175, 132, 0), (.i2l, 135, 0), (.lcmp, 136, 0), (.ifCond .ge 9, 137, 146), (.lload 6, 140, 0), (.l2i, 142, 0), (.goto 4, 143, 147)], 146) := rfl
theorem l_Mo_groupGlyph_146 : q_bk B_Mo_groupGlyph 146 = some ([(.iconst 0, 146, 0)], 147) := rfl
theorem l_Mo_groupGlyph_147 : q_bk B_Mo_groupGlyph 147 = some ([(.ireturn, 147, 0)], 148) := rfl
def b_Mo_segmentGlyph_0 : List (Instr × Nat × Nat) × Nat := ([(.iload_n ⟨1, q_l14⟩, 0, 0), (.ldc 211, 1, 0), (.if_icmp .le 5, 3, 8), (.iconst 0, 6, 0), (.ireturn, 7, 0)], 8)
def b_Mo_segmentGlyph_8 : List (Instr × Nat × Nat) × Nat := ([(.aload_n ⟨0, q_l04⟩, 8, 0), (.iconst 0, 9, 0), (.invokevirtual 188, 10, 0), (.lstore_n ⟨2, q_l24⟩, 13, 0), (.aload_n ⟨0, q_l04⟩, 14, 0), (.iconst 0, 15, 0), (.lload_n ⟨2, q_l24⟩, 16, 0), (.ldc2_w 205, 17, 0), (.ladd, 20, 0), (.invokevirtual 161, 21, 0), (.istore 4, 24, 0), (.iconst 0, 26, 0), (.istore 5, 27, 0)], 29)
def b_Mo_segmentGlyph_29 : List (Instr × Nat × Nat) × Nat := ([(.aload_n ⟨0, q_l04⟩, 29, 0), (.iconst 0, 30, 0), (.lload_n ⟨2, q_l24⟩, 31, 0), (.ldc2_w 207, 32, 0), (.ladd, 35, 0), (.ldc2_w 126, 36, 0), (.iload 5, 39, 0), (.i2l, 41, 0), (.lmul, 42, 0), (.ladd, 43, 0), (.invokevirtual 161, 44, 0), (.iload_n ⟨1, q_l14⟩, 47, 0), (.if_icmp .ge 9, 48, 57), (.iinc 5 1, 51, 0), (.goto (-25), 54, 29)], 57)
def b_Mo_segmentGlyph_57 : List (Instr × Nat × Nat) × Nat := ([(.aload_n ⟨0, q_l04⟩, 57, 0), (.iconst 0, 58, 0), (.lload_n ⟨2, q_l24⟩, 59, 0), (.ldc2_w 149, 60, 0), (.ladd, 63, 0), (.iload 4, 64, 0), (.i2l, 66, 0), (.ladd, 67, 0), (.ldc2_w 126, 68, 0), (.iload 5, 71, 0), (.i2l, 73, 0), (.lmul, 74, 0), (.ladd, 75, 0), (.invokevirtual 161, 76, 0), (.istore 6, 79, 0), (.aload_n ⟨0, q_l04⟩, 81, 0), (.iconst 0, 82, 0), (.lload_n ⟨2, q_l24⟩, 83, 0), (.ldc2_w 149, 84, 0), (.ladd, 87, 0), (.ldc2_w 126, 88, 0), (.iload 4, 91, 0), (.i2l, 93, 0), (.lmul, 94, 0), (.ladd, 95, 0), (.ldc2_w 126, 96, 0), (.iload 5, 99, 0), (.i2l, 101, 0), (.lmul, 102, 0), (.ladd, 103, 0), (.invokevirtual 161, 104, 0), (.istore 7, 107, 0), (.lload_n ⟨2, q_l24⟩, 109, 0), (.ldc2_w 149, 110, 0), (.ladd, 113, 0), (.ldc2_w 209, 114, 0), (.iload 4, 117, 0), (.i2l, 119, 0), (.lmul, 120, 0), (.ladd, 121, 0), (.ldc2_w 126, 122, 0), (.iload 5, 125, 0), (.i2l, 127, 0), (.lmul, 128, 0), (.ladd, 129, 0), (.lstore 8, 130, 0), (.aload_n ⟨0, q_l04⟩, 132, 0), (.iconst 0, 133, 0), (.lload 8, 134, 0), (.invokevirtual 161, 136, 0), (.istore 10, 139, 0), (.iload 6, 141, 0), (.iload_n ⟨1, q_l14⟩, 143, 0), (.if_icmp .le 5, 144, 149), (.iconst 0, 147, 0), (.ireturn, 148, 0)], 149)
def b_Mo_segmentGlyph_149 : List (Instr × Nat × Nat) × Nat := ([(.iload_n ⟨1, q_l14⟩, 149, 0), (.istore 11, 150, 0), (.iload 10, 152, 0), (.ifCond .le 57, 154, 211), (.lload 8, 157, 0), (.iload 10, 159, 0), (.i2l, 161, 0), (.ladd, 162, 0), (.ldc2_w 126, 163, 0), (.iload_n ⟨1, q_l14⟩, 166, 0), (.iload 6, 167, 0), (.isub, 169, 0), (.i2l, 170, 0), (.lmul, 171, 0), (.ladd, 172, 0), (.lstore 12, 173, 0), (.lload 12, 175, 0), (.ldc2_w 126, 177, 0), (.ladd, 180, 0), (.aload_n ⟨0, q_l04⟩, 181, 0), (.iconst 0, 182, 0), (.invokevirtual 132, 183, 0), (.i2l, 186, 0), (.lcmp, 187, 0), (.ifCond .gt 13, 188, 201), (.aload_n ⟨0, q_l04⟩, 191, 0), (.iconst 0, 192, 0), (.lload 12, 193, 0), (.invokevirtual 161, 195, 0), (.goto 4, 198, 202)], 201)
def b_Mo_segmentGlyph_201 : List (Instr × Nat × Nat) × Nat := ([(.iconst 0, 201, 0)], 202)
def b_Mo_segmentGlyph_202 : List (Instr × Nat × Nat) × Nat := ([(.istore 11, 202, 0), (.iload 11, 204, 0), (.ifCond .ne 5, 206, 211), (.iconst 0, 209, 0), (.ireturn, 210, 0)], 211)
def b_Mo_segmentGlyph_211 : List (Instr × Nat × Nat) × Nat := ([(.iload 11, 211, 0), (.iload 7, 213, 0), (.iadd, 215, 0), (.ldc 123, 216, 0), (.irem, 218, 0), (.istore 11, 219, 0), (.iload 11, 221, 0), (.aload_n ⟨0, q_l04⟩, 223, 0), (.invokevirtual 175, 224, 0), (.if_icmp .ge 8, 227, 235), (.iload 11, 230, 0), (.goto 4, 232, 236)], 235)
def b_Mo_segmentGlyph_235 : List (Instr × Nat × Nat) × Nat := ([(.iconst 0, 235, 0)], 236)
def b_Mo_segmentGlyph_236 : List (Instr × Nat × Nat) × Nat := ([(.ireturn, 236, 0)], 237)
def B_Mo_segmentGlyph : q_B := [(0, b_Mo_segmentGlyph_0), (8, b_Mo_segmentGlyph_8), (29, b_Mo_segmentGlyph_29), (57, b_Mo_segmentGlyph_57), (149, b_Mo_segmentGlyph_149), (201, b_Mo_segmentGlyph_201), (202, b_Mo_segmentGlyph_202), (211, b_Mo_segmentGlyph_211), (235, b_Mo_segmentGlyph_235), (236, b_Mo_segmentGlyph_236)]
theorem o_Mo_segmentGlyph : q_okC M_Mo_segmentGlyph B_Mo_segmentGlyph = true := by decide +kernel
theorem u_Mo_segmentGlyph : q_okM M_Mo_segmentGlyph = true := by decide +kernel
theorem l_Mo_segmentGlyph_0 : q_bk B_Mo_segmentGlyph 0 = some ([(.iload_n ⟨1, q_l14⟩, 0, 0), (.ldc 211, 1, 0), (.if_icmp .le 5, 3, 8), (.iconst 0, 6, 0), (.ireturn, 7, 0)], 8) := rfl
theorem l_Mo_segmentGlyph_8 : q_bk B_Mo_segmentGlyph 8 = some ([(.aload_n ⟨0, q_l04⟩, 8, 0), (.iconst 0, 9, 0), (.invokevirtual 188, 10, 0), (.lstore_n ⟨2, q_l24⟩, 13, 0), (.aload_n ⟨0, q_l04⟩, 14, 0), (.iconst 0, 15, 0), (.lload_n ⟨2, q_l24⟩, 16, 0), (.ldc2_w 205, 17, 0), (.ladd, 20, 0), (.invokevirtual 161, 21, 0), (.istore 4, 24, 0), (.iconst 0, 26, 0), (.istore 5, 27, 0)], 29) := rfl
theorem l_Mo_segmentGlyph_29 : q_bk B_Mo_segmentGlyph 29 = some ([(.aload_n ⟨0, q_l04⟩, 29, 0), (.iconst 0, 30, 0), (.lload_n ⟨2, q_l24⟩, 31, 0), (.ldc2_w 207, 32, 0), (.ladd, 35, 0), (.ldc2_w 126, 36, 0), (.iload 5, 39, 0), (.i2l, 41, 0), (.lmul, 42, 0), (.ladd, 43, 0), (.invokevirtual 161, 44, 0), (.iload_n ⟨1, q_l14⟩, 47, 0), (.if_icmp .ge 9, 48, 57), (.iinc 5 1, 51, 0), (.goto (-25), 54, 29)], 57) := rfl
theorem l_Mo_segmentGlyph_57 : q_bk B_Mo_segmentGlyph 57 = some ([(.aload_n ⟨0, q_l04⟩, 57, 0), (.iconst 0, 58, 0), (.lload_n ⟨2, q_l24⟩, 59, 0), (.ldc2_w 149, 60, 0), (.ladd, 63, 0), (.iload 4, 64, 0), (.i2l, 66, 0), (.ladd, 67, 0), (.ldc2_w 126, 68, 0), (.iload 5, 71, 0), (.i2l, 73, 0), (.lmul, 74, 0), (.ladd, 75, 0), (.invokevirtual 161, 76, 0), (.istore 6, 79, 0), (.aload_n ⟨0, q_l04⟩, 81, 0), (.iconst 0, 82, 0), (.lload_n ⟨2, q_l24⟩, 83, 0), (.ldc2_w 149, 84, 0), (.ladd, 87, 0), (.ldc2_w 126, 88, 0), (.iload 4, 91, 0), (.i2l, 93, 0), (.lmul, 94, 0), (.ladd, 95, 0), (.ldc2_w 126, 96, 0), (.iload 5, 99, 0), (.i2l, 101, 0), (.lmul, 102, 0), (.ladd, 103, 0), (.invokevirtual 161, 104, 0), (.istore 7, 107, 0), (.lload_n ⟨2, q_l24⟩, 109, 0), (.ldc2_w 149, 110, 0), (.ladd, 113, 0), (.ldc2_w 209, 114, 0), (.iload 4, 117, 0), (.i2l, 119, 0), (.lmul, 120, 0), (.ladd, 121, 0), (.ldc2_w 126, 122, 0), (.iload 5, 125, 0), (.i2l, 127, 0), (.lmul, 128, 0), (.ladd, 129, 0), (.lstore 8, 130, 0), (.aload_n ⟨0, q_l04⟩, 132, 0), (.iconst 0, 133, 0), (.lload 8, 134, 0), (.invokevirtual 161, 136, 0), (.istore 10, 139, 0), (.iload 6, 141, 0), (.iload_n ⟨1, q_l14⟩, 143, 0), (.if_icmp .le 5, 144, 149), (.iconst 0, 147, 0), (.ireturn, 148, 0)], 149) := rfl
theorem l_Mo_segmentGlyph_149 : q_bk B_Mo_segmentGlyph 149 = some ([(.iload_n ⟨1, q_l14⟩, 149, 0), (.istore 11, 150, 0), (.iload 10, 152, 0), (.ifCond .le 57, 154, 211), (.lload 8, 157, 0), (.iload 10, 159, 0), (.i2l, 161, 0), (.ladd, 162, 0), (.ldc2_w 126, 163, 0), (.iload_n ⟨1, q_l14⟩, 166, 0), (.iload 6, 167, 0), (.isub, 169, 0), (.i2l, 170, 0), (.lmul, 171, 0), (.ladd, 172, 0), (.lstore 12, 173, 0), (.lload 12, 175, 0), (.ldc2_w 126, 177, 0), (.ladd, 180, 0), (.aload_n ⟨0, q_l04⟩, 181, 0), (.iconst 0, 182, 0), (.invokevirtual 132, 183, 0), (.i2l, 186, 0), (.lcmp, 187, 0), (.ifCond .gt 13, 188, 201), (.aload_n ⟨0, q_l04⟩, 191, 0), (.iconst 0, 192, 0), (.lload 12, 193, 0), (.invokevirtual 161, 195, 0), (.goto 4, 198, 202)], 201) := rfl
theorem l_Mo_segmentGlyph_201 : q_bk B_Mo_segmentGlyph 201 = some ([(.iconst 0, 201, 0)], 202) := rfl
theorem l_Mo_segmentGlyph_202 : q_bk B_Mo_segmentGlyph 202 = some ([(.istore 11, 202, 0), (.iload 11, 204, 0), (.ifCond .ne 5, 206, 211), (.iconst 0, 209, 0), (.ireturn, 210, 0)], 211) := rfl
theorem l_Mo_segmentGlyph_211 : q_bk B_Mo_segmentGlyph 211 = some ([(.iload 11, 211, 0), (.iload 7, 213, 0), (.iadd, 215, 0), (.ldc 123, 216, 0), (.irem, 218, 0), (.istore 11, 219, 0), (.iload 11, 221, 0), (.aload_n ⟨0, q_l04⟩, 223, 0), (.invokevirtual 175, 224, 0), (.if_icmp .ge 8, 227, 235), (.iload 11, 230, 0), (.goto 4, 232, 236)], 235) := rfl
theorem l_Mo_segmentGlyph_235 : q_bk B_Mo_segmentGlyph 235 = some ([(.iconst 0, 235, 0)], 236) := rfl
theorem l_Mo_segmentGlyph_236 : q_bk B_Mo_segmentGlyph 236 = some ([(.ireturn, 236, 0)], 237) := rfl
def b_Mo_measure_0 : List (Instr × Nat × Nat) × Nat := ([(.aload_n ⟨0, q_l04⟩, 0, 0), (.aload_n ⟨0, q_l04⟩, 1, 0), (.getfield 230, 2, 0), (.ifCond .ne 7, 5, 12), (.iconst 1, 8, 0), (.goto 26, 9, 35)], 12)
def b_Mo_measure_12 : List (Instr × Nat × Nat) × Nat := ([(.aload_n ⟨0, q_l04⟩, 12, 0), (.iload_n ⟨1, q_l14⟩, 13, 0), (.invokevirtual 300, 14, 0), (.ifCond .eq 13, 17, 30), (.iload_n ⟨2, q_l24⟩, 20, 0), (.ifCond .lt 9, 21, 30), (.iload_n ⟨2, q_l24⟩, 24, 0), (.bipush 7, 25, 0), (.if_icmp .le 7, 27, 34)], 30)
def b_Mo_measure_30 : List (Instr × Nat × Nat) × Nat := ([(.iconst 2, 30, 0), (.goto 4, 31, 35)], 34)
def b_Mo_measure_34 : List (Instr × Nat × Nat) × Nat := ([(.iconst 0, 34, 0)], 35)
def b_Mo_measure_35 : List (Instr × Nat × Nat) × Nat := ([(.invokevirtual 101, 35, 0), (.ifCond .eq 5, 38, 43), (.iconst 0, 41, 0), (.ireturn, 42, 0)], 43)
def b_Mo_measure_43 : List (Instr × Nat × Nat) × Nat := ([(.aload_n ⟨0, q_l04⟩, 43, 0), (.iconst 0, 44, 0), (.putfield 105, 45, 0), (.iload_n ⟨2, q_l24⟩, 48, 0), (.iconst 2, 49, 0), (.if_icmp .ge 27, 50, 77), (.aload_n ⟨0, q_l04⟩, 53, 0), (.iload_n ⟨1, q_l14⟩, 54, 0), (.invokevirtual 303, 55, 0), (.istore_n ⟨3, q_l34⟩, 58, 0), (.iload_n ⟨2, q_l24⟩, 59, 0), (.ifCond .ne 11, 60, 71), (.aload_n ⟨0, q_l04⟩, 63, 0), (.iload_n ⟨3, q_l34⟩, 64, 0), (.invokevirtual 306, 65, 0), (.goto 8, 68, 76)], 71)
def b_Mo_measure_71 : List (Instr × Nat × Nat) × Nat := ([(.aload_n ⟨0, q_l04⟩, 71, 0), (.iload_n ⟨3, q_l34⟩, 72, 0), (.invokevirtual 309, 73, 0)], 76)
def b_Mo_measure_76 : List (Instr × Nat × Nat) × Nat := ([(.ireturn, 76, 0)], 77)
def b_Mo_measure_77 : List (Instr × Nat × Nat) × Nat := ([(.aload_n ⟨0, q_l04⟩, 77, 0), (.iload_n ⟨1, q_l14⟩, 78, 0), (.invokevirtual 212, 79, 0), (.iload_n ⟨2, q_l24⟩, 82, 0), (.tableswitch 68 2 6 #[33, 40, 47, 54, 61], 83, 0)], 116)
def b_Mo_measure_116 : List (Instr × Nat × Nat) × Nat := ([(.aload_n ⟨0, q_l04⟩, 116, 0), (.getfield 41, 117, 0), (.iconst 0, 120, 0), (.iaload, 121, 0), (.ireturn, 122, 0)], 123)
def b_Mo_measure_123 : List (Instr × Nat × Nat) × Nat := ([(.aload_n ⟨0, q_l04⟩, 123, 0), (.getfield 44, 124, 0), (.iconst 0, 127, 0), (.iaload, 128, 0), (.ireturn, 129, 0)], 130)
def b_Mo_measure_130 : List (Instr × Nat × Nat) × Nat := ([(.aload_n ⟨0, q_l04⟩, 130, 0), (.iconst 1, 131, 0), (.iconst 1, 132, 0), (.invokevirtual 312, 133, 0), (.ireturn, 136, 0)], 137)
def b_Mo_measure_137 : List (Instr × Nat × Nat) × Nat := ([(.aload_n ⟨0, q_l04⟩, 137, 0), (.iconst 0, 138, 0), (.iconst 1, 139, 0), (.invokevirtual 312, 140, 0), (.ireturn, 143, 0)], 144)
def b_Mo_measure_144 : List (Instr × Nat × Nat) × Nat := ([(.aload_n ⟨0, q_l04⟩, 144, 0), (.iconst 1, 145, 0), (.iconst 0, 146, 0), (.invokevirtual 312, 147, 0), (.ireturn, 150, 0)], 151)
def b_Mo_measure_151 : List (Instr × Nat × Nat) × Nat := ([(.aload_n ⟨0, q_l04⟩, 151, 0), (.iconst 0, 152, 0), (.iconst 0, 153, 0), (.invokevirtual 312, 154, 0), (.ireturn, 157, 0)], 158)
def B_Mo_measure : q_B := [(0, b_Mo_measure_0), (12, b_Mo_measure_12), (30, b_Mo_measure_30), (34, b_Mo_measure_34), (35, b_Mo_measure_35), (43, b_Mo_measure_43), (71, b_Mo_measure_71), (76, b_Mo_measure_76), (77, b_Mo_measure_77), (116, b_Mo_measure_116), (123, b_Mo_measure_123), (130, b_Mo_measure_130), (137, b_Mo_measure_137), (144, b_Mo_measure_144), (151, b_Mo_measure_151)]
theorem o_Mo_measure : q_okC M_Mo_measure B_Mo_measure = true := by decide +kernel
theorem u_Mo_measure : q_okM M_Mo_measure = true := by decide +kernel
theorem l_Mo_measure_0 : q_bk B_Mo_measure 0 = some ([(.aload_n ⟨0, q_l04⟩, 0, 0), (.aload_n ⟨0, q_l04⟩, 1, 0), (.getfield 230, 2, 0), (.ifCond .ne 7, 5, 12), (.iconst 1, 8, 0), (.goto 26, 9, 35)], 12) := rfl
theorem l_Mo_measure_12 : q_bk B_Mo_measure 12 = some ([(.aload_n ⟨0, q_l04⟩, 12, 0), (.iload_n ⟨1, q_l14⟩, 13, 0), (.invokevirtual 300, 14, 0), (.ifCond .eq 13, 17, 30), (.iload_n ⟨2, q_l24⟩, 20, 0), (.ifCond .lt 9, 21, 30), (.iload_n ⟨2, q_l24⟩, 24, 0), (.bipush 7, 25, 0), (.if_icmp .le 7, 27, 34)], 30) := rfl
theorem l_Mo_measure_30 : q_bk B_Mo_measure 30 = some ([(.iconst 2, 30, 0), (.goto 4, 31, 35)], 34) := rfl
theorem l_Mo_measure_34 : q_bk B_Mo_measure 34 = some ([(.iconst 0, 34, 0)], 35) := rfl
theorem l_Mo_measure_35 : q_bk B_Mo_measure 35 = some ([(.invokevirtual 101, 35, 0), (.ifCond .eq 5, 38, 43), (.iconst 0, 41, 0), (.ireturn, 42, 0)], 43) := rfl
theorem l_Mo_measure_43 : q_bk B_Mo_measure 43 = some ([(.aload_n ⟨0, q_l04⟩, 43, 0), (.iconst 0, 44, 0), (.putfield 105, 45, 0), (.iload_n ⟨2, q_l24⟩, 48, 0), (.iconst 2, 49, 0), (.if_icmp .ge 27, 50, 77), (.aload_n ⟨0, q_l04⟩, 53, 0), (.iload_n ⟨1, q_l14⟩, 54, 0), (.invokevirtual 303, 55, 0), (.istore_n ⟨3, q_l34⟩, 58, 0), (.iload_n ⟨2, q_l24⟩, 59, 0), (.ifCond .ne 11, 60, 71), (.aload_n ⟨0, q_l04⟩, 63, 0), (.iload_n ⟨3, q_l34⟩, 64, 0), (.invokevirtual 306, 65, 0), (.goto 8, 68, 76)], 71) := rfl
theorem l_Mo_measure_71 : q_bk B_Mo_measure 71 = some ([(.aload_n ⟨0, q_l04⟩, 71, 0), (.iload_n ⟨3, q_l34⟩, 72, 0), (.invokevirtual 309, 73, 0)], 76) := rfl
theorem l_Mo_measure_76 : q_bk B_Mo_measure 76 = some ([(.ireturn, 76, 0)], 77) := rfl
theorem l_Mo_measure_77 : q_bk B_Mo_measure 77 = some ([(.aload_n ⟨0, q_l04⟩, 77, 0), (.iload_n ⟨1, q_l14⟩, 78, 0), (.invokevirtual 212, 79, 0), (.iload_n ⟨2, q_l24⟩, 82, 0), (.tableswitch 68 2 6 #[33, 40, 47, 54, 61], 83, 0)], 116) := rfl
theorem l_Mo_measure_116 : q_bk B_Mo_measure 116 = some ([(.aload_n ⟨0, q_l04⟩, 116, 0), (.getfield 41, 117, 0), (.iconst 0, 120, 0), (.iaload, 121, 0), (.ireturn, 122, 0)], 123) := rfl
theorem l_Mo_measure_123 : q_bk B_Mo_measure 123 = some ([(.aload_n ⟨0, q_l04⟩, 123, 0), (.getfield 44, 124, 0), (.iconst 0, 127, 0), (.iaload, 128, 0), (.ireturn, 129, 0)], 130) := rfl
theorem l_Mo_measure_130 : q_bk B_Mo_measure 130 = some ([(.aload_n ⟨0, q_l04⟩, 130, 0), (.iconst 1, 131, 0), (.iconst 1, 132, 0), (.invokevirtual 312, 133, 0), (.ireturn, 136, 0)], 137) := rfl
theorem l_Mo_measure_137 : q_bk B_Mo_measure 137 = some ([(.aload_n ⟨0, q_l04⟩, 137, 0), (.iconst 0, 138, 0), (.iconst 1, 139, 0), (.invokevirtual 312, 140, 0), (.ireturn, 143, 0)], 144) := rfl
theorem l_Mo_measure_144 : q_bk B_Mo_measure 144 = some ([(.aload_n ⟨0, q_l04⟩, 144, 0), (.iconst 1, 145, 0), (.iconst 0, 146, 0), (.invokevirtual 312, 147, 0), (.ireturn, 150, 0)], 151) := rfl
theorem l_Mo_measure_151 : q_bk B_Mo_measure 151 = some ([(.aload_n ⟨0, q_l04⟩, 151, 0), (.iconst 0, 152, 0), (.iconst 0, 153, 0), (.invokevirtual 312, 154, 0), (.ireturn, 157, 0)], 158) := rfl
def b_Mo_isGlyph_0 : List (Instr × Nat × Nat) × Nat := ([(.aload_n ⟨0, q_l04⟩, 0, 0), (.iconst 1, 1, 0), (.putfield 113, 2, 0), (.aload_n ⟨0, q_l04⟩, 5, 0), (.getfield 230, 6, 0), (.ifCond .eq 19, 9, 28), (.iload_n ⟨1, q_l14⟩, 12, 0), (.ifCond .lt 15, 13, 28), (.iload_n ⟨1, q_l14⟩, 16, 0), (.aload_n ⟨0, q_l04⟩, 17, 0), (.invokevirtual 175, 18, 0), (.if_icmp .ge 7, 21, 28), (.iconst 1, 24, 0), (.goto 4, 25, 29)], 28)
def b_Mo_isGlyph_28 : List (Instr × Nat × Nat) × Nat := ([(.iconst 0, 28, 0)], 29)
def b_Mo_isGlyph_29 : List (Instr × Nat × Nat) × Nat := ([(.ireturn, 29, 0)], 30)
def B_Mo_isGlyph : q_B := [(0, b_Mo_isGlyph_0), (28, b_Mo_isGlyph_28), (29, b_Mo_isGlyph_29)]
theorem o_Mo_isGlyph : q_okC M_Mo_isGlyph B_Mo_isGlyph = true := by decide +kernel
theorem u_Mo_isGlyph : q_okM M_Mo_isGlyph = true := by decide +kernel
theorem l_Mo_isGlyph_0 : q_bk B_Mo_isGlyph 0 = some ([(.aload_n ⟨0, q_l04⟩, 0, 0), (.iconst 1, 1, 0), (.putfield 113, 2, 0), (.aload_n ⟨0, q_l04⟩, 5, 0), (.getfield 230, 6, 0), (.ifCond .eq 19, 9, 28), (.iload_n ⟨1, q_l14⟩, 12, 0), (.ifCond .lt 15, 13, 28), (.iload_n ⟨1, q_l14⟩, 16, 0), (.aload_n ⟨0, q_l04⟩, 17, 0), (.invokevirtual 175, 18, 0), (.if_icmp .ge 7, 21, 28), (.iconst 1, 24, 0), (.goto 4, 25, 29)], 28) := rfl
theorem l_Mo_isGlyph_28 : q_bk B_Mo_isGlyph 28 = some ([(.iconst 0, 28, 0)], 29) := rfl
theorem l_Mo_isGlyph_29 : q_bk B_Mo_isGlyph 29 = some ([(.ireturn, 29, 0)], 30) := rfl
def b_Mo_lends_0 : List (Instr × Nat × Nat) × Nat := ([(.iload_n ⟨1, q_l14⟩, 0, 0), (.istore_n ⟨2, q_l24⟩, 1, 0), (.aload_n ⟨0, q_l04⟩, 2, 0), (.iload_n ⟨2, q_l24⟩, 3, 0), (.invokevirtual 212, 4, 0)], 7)
def b_Mo_lends_7 : List (Instr × Nat × Nat) × Nat := ([(.aload_n ⟨0, q_l04⟩, 7, 0), (.getfield 250, 8, 0), (.ifCond .lt 16, 11, 27), (.aload_n ⟨0, q_l04⟩, 14, 0), (.getfield 250, 15, 0), (.istore_n ⟨2, q_l24⟩, 18, 0), (.aload_n ⟨0, q_l04⟩, 19, 0), (.iload_n ⟨2, q_l24⟩, 20, 0), (.invokevirtual 212, 21, 0), (.goto (-17), 24, 7)], 27)
def b_Mo_lends_27 : List (Instr × Nat × Nat) × Nat := ([(.iload_n ⟨2, q_l24⟩, 27, 0), (.ireturn, 28, 0)], 29)
def B_Mo_lends : q_B := [(0, b_Mo_lends_0), (7, b_Mo_lends_7), (27, b_Mo_lends_27)]
theorem o_Mo_lends : q_okC M_Mo_lends B_Mo_lends = true := by decide +kernel
theorem u_Mo_lends : q_okM M_Mo_lends = true := by decide +kernel
theorem l_Mo_lends_0 : q_bk B_Mo_lends 0 = some ([(.iload_n ⟨1, q_l14⟩, 0, 0), (.istore_n ⟨2, q_l24⟩, 1, 0), (.aload_n ⟨0, q_l04⟩, 2, 0), (.iload_n ⟨2, q_l24⟩, 3, 0), (.invokevirtual 212, 4, 0)], 7) := rfl
theorem l_Mo_lends_7 : q_bk B_Mo_lends 7 = some ([(.aload_n ⟨0, q_l04⟩, 7, 0), (.getfield 250, 8, 0), (.ifCond .lt 16, 11, 27), (.aload_n ⟨0, q_l04⟩, 14, 0), (.getfield 250, 15, 0), (.istore_n ⟨2, q_l24⟩, 18, 0), (.aload_n ⟨0, q_l04⟩, 19, 0), (.iload_n ⟨2, q_l24⟩, 20, 0), (.invokevirtual 212, 21, 0), (.goto (-17), 24, 7)], 27) := rfl
theorem l_Mo_lends_27 : q_bk B_Mo_lends 27 = some ([(.iload_n ⟨2, q_l24⟩, 27, 0), (.ireturn, 28, 0)], 29) := rfl
def b_Mo_width_0 : List (Instr × Nat × Nat) × Nat := ([(.aload_n ⟨0, q_l04⟩, 0, 0), (.invokevirtual 178, 1, 0), (.istore_n ⟨2, q_l24⟩, 4, 0), (.aload_n ⟨0, q_l04⟩, 5, 0), (.iconst 4, 6, 0), (.ldc2_w 139, 7, 0), (.iload_n ⟨1, q_l14⟩, 10, 0), (.iload_n ⟨2, q_l24⟩, 11, 0), (.if_icmp .ge 7, 12, 19), (.iload_n ⟨1, q_l14⟩, 15, 0), (.goto 6, 16, 22)], 19)
def b_Mo_width_19 : List (Instr × Nat × Nat) × Nat := ([(.iload_n ⟨2, q_l24⟩, 19, 0), (.iconst 1, 20, 0), (.isub, 21, 0)], 22)
def b_Mo_width_22 : List (Instr × Nat × Nat) × Nat := ([(.i2l, 22, 0), (.lmul, 23, 0), (.invokevirtual 161, 24, 0), (.ireturn, 27, 0)], 28)
def B_Mo_width : q_B := [(0, b_Mo_width_0), (19, b_Mo_width_19), (22, b_Mo_width_22)]
theorem o_Mo_width : q_okC M_Mo_width B_Mo_width = true := by decide +kernel
theorem u_Mo_width : q_okM M_Mo_width = true := by decide +kernel
theorem l_Mo_width_0 : q_bk B_Mo_width 0 = some ([(.aload_n ⟨0, q_l04⟩, 0, 0), (.invokevirtual 178, 1, 0), (.istore_n ⟨2, q_l24⟩, 4, 0), (.aload_n ⟨0, q_l04⟩, 5, 0), (.iconst 4, 6, 0), (.ldc2_w 139, 7, 0), (.iload_n ⟨1, q_l14⟩, 10, 0), (.iload_n ⟨2, q_l24⟩, 11, 0), (.if_icmp .ge 7, 12, 19), (.iload_n ⟨1, q_l14⟩, 15, 0), (.goto 6, 16, 22)], 19) := rfl
theorem l_Mo_width_19 : q_bk B_Mo_width 19 = some ([(.iload_n ⟨2, q_l24⟩, 19, 0), (.iconst 1, 20, 0), (.isub, 21, 0)], 22) := rfl
theorem l_Mo_width_22 : q_bk B_Mo_width 22 = some ([(.i2l, 22, 0), (.lmul, 23, 0), (.invokevirtual 161, 24, 0), (.ireturn, 27, 0)], 28) := rfl
def b_Mo_left_0 : List (Instr × Nat × Nat) × Nat := ([(.aload_n ⟨0, q_l04⟩, 0, 0), (.invokevirtual 178, 1, 0), (.istore_n ⟨2, q_l24⟩, 4, 0), (.aload_n ⟨0, q_l04⟩, 5, 0), (.aload_n ⟨0, q_l04⟩, 6, 0), (.iconst 4, 7, 0), (.invokevirtual 128, 8, 0), (.aload_n ⟨0, q_l04⟩, 11, 0), (.iconst 4, 12, 0), (.invokevirtual 132, 13, 0), (.i2l, 16, 0), (.iload_n ⟨1, q_l14⟩, 17, 0), (.iload_n ⟨2, q_l24⟩, 18, 0), (.if_icmp .ge 16, 19, 35), (.ldc2_w 139, 22, 0), (.iload_n ⟨1, q_l14⟩, 25, 0), (.i2l, 26, 0), (.lmul, 27, 0), (.ldc2_w 126, 28, 0), (.ladd, 31, 0), (.goto 18, 32, 50)], 35)
def b_Mo_left_35 : List (Instr × Nat × Nat) × Nat := ([(.ldc2_w 139, 35, 0), (.iload_n ⟨2, q_l24⟩, 38, 0), (.i2l, 39, 0), (.lmul, 40, 0), (.ldc2_w 126, 41, 0), (.iload_n ⟨1, q_l14⟩, 44, 0), (.iload_n ⟨2, q_l24⟩, 45, 0), (.isub, 46, 0), (.i2l, 47, 0), (.lmul, 48, 0), (.ladd, 49, 0)], 50)
def b_Mo_left_50 : List (Instr × Nat × Nat) × Nat := ([(.invokevirtual 263, 50, 0), (.ireturn, 53, 0)], 54)
def B_Mo_left : q_B := [(0, b_Mo_left_0), (35, b_Mo_left_35), (50, b_Mo_left_50)]
theorem o_Mo_left : q_okC M_Mo_left B_Mo_left = true := by decide +kernel
theorem u_Mo_left : q_okM M_Mo_left = true := by decide +kernel
theorem l_Mo_left_0 : q_bk B_Mo_left 0 = some ([(.aload_n ⟨0, q_l04⟩, 0, 0), (.invokevirtual 178, 1, 0), (.istore_n ⟨2, q_l24⟩, 4, 0), (.aload_n ⟨0, q_l04⟩, 5, 0), (.aload_n ⟨0, q_l04⟩, 6, 0), (.iconst 4, 7, 0), (.invokevirtual 128, 8, 0), (.aload_n ⟨0, q_l04⟩, 11, 0), (.iconst 4, 12, 0), (.invokevirtual 132, 13, 0), (.i2l, 16, 0), (.iload_n ⟨1, q_l14⟩, 17, 0), (.iload_n ⟨2, q_l24⟩, 18, 0), (.if_icmp .ge 16, 19, 35), (.ldc2_w 139, 22, 0), (.iload_n ⟨1, q_l14⟩, 25, 0), (.i2l, 26, 0), (.lmul, 27, 0), (.ldc2_w 126, 28, 0), (.ladd, 31, 0), (.goto 18, 32, 50)], 35) := rfl
theorem l_Mo_left_35 : q_bk B_Mo_left 35 = some ([(.ldc2_w 139, 35, 0), (.iload_n ⟨2, q_l24⟩, 38, 0), (.i2l, 39, 0), (.lmul, 40, 0), (.ldc2_w 126, 41, 0), (.iload_n ⟨1, q_l14⟩, 44, 0), (.iload_n ⟨2, q_l24⟩, 45, 0), (.isub, 46, 0), (.i2l, 47, 0), (.lmul, 48, 0), (.ladd, 49, 0)], 50) := rfl
theorem l_Mo_left_50 : q_bk B_Mo_left 50 = some ([(.invokevirtual 263, 50, 0), (.ireturn, 53, 0)], 54) := rfl
def b_Mo_bound_0 : List (Instr × Nat × Nat) × Nat := ([(.iconst 0, 0, 0), (.istore_n ⟨3, q_l34⟩, 1, 0), (.iconst 0, 2, 0), (.istore 4, 3, 0)], 5)
def b_Mo_bound_5 : List (Instr × Nat × Nat) × Nat := ([(.iload 4, 5, 0), (.aload_n ⟨0, q_l04⟩, 7, 0), (.getfield 41, 8, 0), (.iconst 0, 11, 0), (.iaload, 12, 0), (.if_icmp .ge 63, 13, 76), (.iload_n ⟨1, q_l14⟩, 16, 0), (.ifCond .eq 13, 17, 30), (.aload_n ⟨0, q_l04⟩, 20, 0), (.getfield 25, 21, 0), (.iload 4, 24, 0), (.iaload, 26, 0), (.goto 10, 27, 37)], 30)
def b_Mo_bound_30 : List (Instr × Nat × Nat) × Nat := ([(.aload_n ⟨0, q_l04⟩, 30, 0), (.getfield 28, 31, 0), (.iload 4, 34, 0), (.iaload, 36, 0)], 37)
def b_Mo_bound_37 : List (Instr × Nat × Nat) × Nat := ([(.istore 5, 37, 0), (.iload 4, 39, 0), (.ifCond .eq 22, 41, 63), (.iload_n ⟨2, q_l24⟩, 44, 0), (.ifCond .eq 12, 45, 57), (.iload 5, 48, 0), (.iload_n ⟨3, q_l34⟩, 50, 0), (.if_icmp .ge 17, 51, 68), (.goto 9, 54, 63)], 57)
def b_Mo_bound_57 : List (Instr × Nat × Nat) × Nat := ([(.iload 5, 57, 0), (.iload_n ⟨3, q_l34⟩, 59, 0), (.if_icmp .le 8, 60, 68)], 63)
def b_Mo_bound_63 : List (Instr × Nat × Nat) × Nat := ([(.iload 5, 63, 0), (.goto 4, 65, 69)], 68)
def b_Mo_bound_68 : List (Instr × Nat × Nat) × Nat := ([(.iload_n ⟨3, q_l34⟩, 68, 0)], 69)
def b_Mo_bound_69 : List (Instr × Nat × Nat) × Nat := ([(.istore_n ⟨3, q_l34⟩, 69, 0), (.iinc 4 1, 70, 0), (.goto (-68), 73, 5)], 76)
def b_Mo_bound_76 : List (Instr × Nat × Nat) × Nat := ([(.iload_n ⟨3, q_l34⟩, 76, 0), (.ireturn, 77, 0)], 78)
def B_Mo_bound : q_B := [(0, b_Mo_bound_0), (5, b_Mo_bound_5), (30, b_Mo_bound_30), (37, b_Mo_bound_37), (57, b_Mo_bound_57), (63, b_Mo_bound_63), (68, b_Mo_bound_68), (69, b_Mo_bound_69), (76, b_Mo_bound_76)]
theorem o_Mo_bound : q_okC M_Mo_bound B_Mo_bound = true := by decide +kernel
theorem u_Mo_bound : q_okM M_Mo_bound = true := by decide +kernel
theorem l_Mo_bound_0 : q_bk B_Mo_bound 0 = some ([(.iconst 0, 0, 0), (.istore_n ⟨3, q_l34⟩, 1, 0), (.iconst 0, 2, 0), (.istore 4, 3, 0)], 5) := rfl
theorem l_Mo_bound_5 : q_bk B_Mo_bound 5 = some ([(.iload 4, 5, 0), (.aload_n ⟨0, q_l04⟩, 7, 0), (.getfield 41, 8, 0), (.iconst 0, 11, 0), (.iaload, 12, 0), (.if_icmp .ge 63, 13, 76), (.iload_n ⟨1, q_l14⟩, 16, 0), (.ifCond .eq 13, 17, 30), (.aload_n ⟨0, q_l04⟩, 20, 0), (.getfield 25, 21, 0), (.iload 4, 24, 0), (.iaload, 26, 0), (.goto 10, 27, 37)], 30) := rfl
theorem l_Mo_bound_30 : q_bk B_Mo_bound 30 = some ([(.aload_n ⟨0, q_l04⟩, 30, 0), (.getfield 28, 31, 0), (.iload 4, 34, 0), (.iaload, 36, 0)], 37) := rfl
theorem l_Mo_bound_37 : q_bk B_Mo_bound 37 = some ([(.istore 5, 37, 0), (.iload 4, 39, 0), (.ifCond .eq 22, 41, 63), (.iload_n ⟨2, q_l24⟩, 44, 0), (.ifCond .eq 12, 45, 57), (.iload 5, 48, 0), (.iload_n ⟨3, q_l34⟩, 50, 0), (.if_icmp .ge 17, 51, 68), (.goto 9, 54, 63)], 57) := rfl
theorem l_Mo_bound_57 : q_bk B_Mo_bound 57 = some ([(.iload 5, 57, 0), (.iload_n ⟨3, q_l34⟩, 59, 0), (.if_icmp .le 8, 60, 68)], 63) := rfl
theorem l_Mo_bound_63 : q_bk B_Mo_bound 63 = some ([(.iload 5, 63, 0), (.goto 4, 65, 69)], 68) := rfl
theorem l_Mo_bound_68 : q_bk B_Mo_bound 68 = some ([(.iload_n ⟨3, q_l34⟩, 68, 0)], 69) := rfl
theorem l_Mo_bound_69 : q_bk B_Mo_bound 69 = some ([(.istore_n ⟨3, q_l34⟩, 69, 0), (.iinc 4 1, 70, 0), (.goto (-68), 73, 5)], 76) := rfl
theorem l_Mo_bound_76 : q_bk B_Mo_bound 76 = some ([(.iload_n ⟨3, q_l34⟩, 76, 0), (.ireturn, 77, 0)], 78) := rfl
def b_Mo_point_0 : List (Instr × Nat × Nat) × Nat := ([(.aload_n ⟨0, q_l04⟩, 0, 0), (.iconst 0, 1, 0), (.putfield 105, 2, 0), (.aload_n ⟨0, q_l04⟩, 5, 0), (.iload_n ⟨1, q_l14⟩, 6, 0), (.invokevirtual 300, 7, 0), (.istore 4, 10, 0), (.iload 4, 12, 0), (.ifCond .eq 8, 14, 22), (.aload_n ⟨0, q_l04⟩, 17, 0), (.iload_n ⟨1, q_l14⟩, 18, 0), (.invokevirtual 212, 19, 0)], 22)
def b_Mo_point_22 : List (Instr × Nat × Nat) × Nat := ([(.iload 4, 22, 0), (.ifCond .eq 30, 24, 54), (.iload_n ⟨2, q_l24⟩, 27, 0), (.ifCond .lt 26, 28, 54), (.iload_n ⟨2, q_l24⟩, 31, 0), (.aload_n ⟨0, q_l04⟩, 32, 0), (.getfield 41, 33, 0), (.iconst 0, 36, 0), (.iaload, 37, 0), (.if_icmp .ge 16, 38, 54), (.iload_n ⟨3, q_l34⟩, 41, 0), (.ifCond .lt 12, 42, 54), (.iload_n ⟨3, q_l34⟩, 45, 0), (.iconst 4, 46, 0), (.if_icmp .ge 7, 47, 54), (.iconst 1, 50, 0), (.goto 4, 51, 55)], 54)
def b_Mo_point_54 : List (Instr × Nat × Nat) × Nat := ([(.iconst 0, 54, 0)], 55)
def b_Mo_point_55 : List (Instr × Nat × Nat) × Nat := ([(.istore 4, 55, 0), (.aload_n ⟨0, q_l04⟩, 57, 0), (.aload_n ⟨0, q_l04⟩, 58, 0), (.getfield 230, 59, 0), (.ifCond .ne 7, 62, 69), (.iconst 1, 65, 0), (.goto 13, 66, 79)], 69)
def b_Mo_point_69 : List (Instr × Nat × Nat) × Nat := ([(.iload 4, 69, 0), (.ifCond .ne 7, 71, 78), (.iconst 2, 74, 0), (.goto 4, 75, 79)], 78)
def b_Mo_point_78 : List (Instr × Nat × Nat) × Nat := ([(.iconst 0, 78, 0)], 79)
def b_Mo_point_79 : List (Instr × Nat × Nat) × Nat := ([(.invokevirtual 101, 79, 0), (.ifCond .eq 5, 82, 87), (.iconst 0, 85, 0), (.ireturn, 86, 0)], 87)
def b_Mo_point_87 : List (Instr × Nat × Nat) × Nat := ([(.iload_n ⟨3, q_l34⟩, 87, 0), (.tableswitch 57 0 2 #[28, 35, 42], 88, 0)], 116)
def b_Mo_point_116 : List (Instr × Nat × Nat) × Nat := ([(.aload_n ⟨0, q_l04⟩, 116, 0), (.getfield 25, 117, 0), (.iload_n ⟨2, q_l24⟩, 120, 0), (.iaload, 121, 0), (.ireturn, 122, 0)], 123)
def b_Mo_point_123 : List (Instr × Nat × Nat) × Nat := ([(.aload_n ⟨0, q_l04⟩, 123, 0), (.getfield 28, 124, 0), (.iload_n ⟨2, q_l24⟩, 127, 0), (.iaload, 128, 0), (.ireturn, 129, 0)], 130)
def b_Mo_point_130 : List (Instr × Nat × Nat) × Nat := ([(.aload_n ⟨0, q_l04⟩, 130, 0), (.getfield 31, 131, 0), (.iload_n ⟨2, q_l24⟩, 134, 0), (.baload, 135, 0), (.ifCond .eq 7, 136, 143), (.iconst 1, 139, 0), (.goto 4, 140, 144)], 143)
def b_Mo_point_143 : List (Instr × Nat × Nat) × Nat := ([(.iconst 0, 143, 0)], 144)
def b_Mo_point_144 : List (Instr × Nat × Nat) × Nat := ([(.ireturn, 144, 0)], 145)
def b_Mo_point_145 : List (Instr × Nat × Nat) × Nat := ([(.aload_n ⟨0, q_l04⟩, 145, 0), (.getfield 35, 146, 0), (.iload_n ⟨2, q_l24⟩, 149, 0), (.iaload, 150, 0), (.ireturn, 151, 0)], 152)
def B_Mo_point : q_B := [(0, b_Mo_point_0), (22, b_Mo_point_22), (54, b_Mo_point_54), (55, b_Mo_point_55), (69, b_Mo_point_69), (78, b_Mo_point_78), (79, b_Mo_point_79), (87, b_Mo_point_87), (116, b_Mo_point_116), (123, b_Mo_point_123), (130, b_Mo_point_130), (143, b_Mo_point_143), (144, b_Mo_point_144), (145, b_Mo_point_145)]
theorem o_Mo_point : q_okC M_Mo_point B_Mo_point = true := by decide +kernel
theorem u_Mo_point : q_okM M_Mo_point = true := by decide +kernel
theorem l_Mo_point_0 : q_bk B_Mo_point 0 = some ([(.aload_n ⟨0, q_l04⟩, 0, 0), (.iconst 0, 1, 0), (.putfield 105, 2, 0), (.aload_n ⟨0, q_l04⟩, 5, 0), (.iload_n ⟨1, q_l14⟩, 6, 0), (.invokevirtual 300, 7, 0), (.istore 4, 10, 0), (.iload 4, 12, 0), (.ifCond .eq 8, 14, 22), (.aload_n ⟨0, q_l04⟩, 17, 0), (.iload_n ⟨1, q_l14⟩, 18, 0), (.invokevirtual 212, 19, 0)], 22) := rfl
theorem l_Mo_point_22 : q_bk B_Mo_point 22 = some ([(.iload 4, 22, 0), (.ifCond .eq 30, 24, 54), (.iload_n ⟨2, q_l24⟩, 27, 0), (.ifCond .lt 26, 28, 54), (.iload_n ⟨2, q_l24⟩, 31, 0), (.aload_n ⟨0, q_l04⟩, 32, 0), (.getfield 41, 33, 0), (.iconst 0, 36, 0), (.iaload, 37, 0), (.if_icmp .ge 16, 38, 54), (.iload_n ⟨3, q_l34⟩, 41, 0), (.ifCond .lt 12, 42, 54), (.iload_n ⟨3, q_l34⟩, 45, 0), (.iconst 4, 46, 0), (.if_icmp .ge 7, 47, 54), (.iconst 1, 50, 0), (.goto 4, 51, 55)], 54) := rfl
theorem l_Mo_point_54 : q_bk B_Mo_point 54 = some ([(.iconst 0, 54, 0)], 55) := rfl
theorem l_Mo_point_55 : q_bk B_Mo_point 55 = some ([(.istore 4, 55, 0), (.aload_n ⟨0, q_l04⟩, 57, 0), (.aload_n ⟨0, q_l04⟩, 58, 0), (.getfield 230, 59, 0), (.ifCond .ne 7, 62, 69), (.iconst 1, 65, 0), (.goto 13, 66, 79)], 69) := rfl
theorem l_Mo_point_69 : q_bk B_Mo_point 69 = some ([(.iload 4, 69, 0), (.ifCond .ne 7, 71, 78), (.iconst 2, 74, 0), (.goto 4, 75, 79)], 78) := rfl
theorem l_Mo_point_78 : q_bk B_Mo_point 78 = some ([(.iconst 0, 78, 0)], 79) := rfl
theorem l_Mo_point_79 : q_bk B_Mo_point 79 = some ([(.invokevirtual 101, 79, 0), (.ifCond .eq 5, 82, 87), (.iconst 0, 85, 0), (.ireturn, 86, 0)], 87) := rfl
theorem l_Mo_point_87 : q_bk B_Mo_point 87 = some ([(.iload_n ⟨3, q_l34⟩, 87, 0), (.tableswitch 57 0 2 #[28, 35, 42], 88, 0)], 116) := rfl
theorem l_Mo_point_116 : q_bk B_Mo_point 116 = some ([(.aload_n ⟨0, q_l04⟩, 116, 0), (.getfield 25, 117, 0), (.iload_n ⟨2, q_l24⟩, 120, 0), (.iaload, 121, 0), (.ireturn, 122, 0)], 123) := rfl
theorem l_Mo_point_123 : q_bk B_Mo_point 123 = some ([(.aload_n ⟨0, q_l04⟩, 123, 0), (.getfield 28, 124, 0), (.iload_n ⟨2, q_l24⟩, 127, 0), (.iaload, 128, 0), (.ireturn, 129, 0)], 130) := rfl
theorem l_Mo_point_130 : q_bk B_Mo_point 130 = some ([(.aload_n ⟨0, q_l04⟩, 130, 0), (.getfield 31, 131, 0), (.iload_n ⟨2, q_l24⟩, 134, 0), (.baload, 135, 0), (.ifCond .eq 7, 136, 143), (.iconst 1, 139, 0), (.goto 4, 140, 144)], 143) := rfl
theorem l_Mo_point_143 : q_bk B_Mo_point 143 = some ([(.iconst 0, 143, 0)], 144) := rfl
theorem l_Mo_point_144 : q_bk B_Mo_point 144 = some ([(.ireturn, 144, 0)], 145) := rfl
theorem l_Mo_point_145 : q_bk B_Mo_point 145 = some ([(.aload_n ⟨0, q_l04⟩, 145, 0), (.getfield 35, 146, 0), (.iload_n ⟨2, q_l24⟩, 149, 0), (.iaload, 150, 0), (.ireturn, 151, 0)], 152) := rfl
def b_Mo_font_0 : List (Instr × Nat × Nat) × Nat := ([(.aload_n ⟨0, q_l04⟩, 0, 0), (.aload_n ⟨0, q_l04⟩, 1, 0), (.getfield 230, 2, 0), (.ifCond .ne 7, 5, 12), (.iconst 1, 8, 0), (.goto 17, 9, 26)], 12)
def b_Mo_font_12 : List (Instr × Nat × Nat) × Nat := ([(.iload_n ⟨1, q_l14⟩, 12, 0), (.ifCond .lt 8, 13, 21), (.iload_n ⟨1, q_l14⟩, 16, 0), (.iconst 1, 17, 0), (.if_icmp .le 7, 18, 25)], 21)
def b_Mo_font_21 : List (Instr × Nat × Nat) × Nat := ([(.iconst 2, 21, 0), (.goto 4, 22, 26)], 25)
def b_Mo_font_25 : List (Instr × Nat × Nat) × Nat := ([(.iconst 0, 25, 0)], 26)
def b_Mo_font_26 : List (Instr × Nat × Nat) × Nat := ([(.invokevirtual 101, 26, 0), (.ifCond .eq 5, 29, 34), (.iconst 0, 32, 0), (.ireturn, 33, 0)], 34)
def b_Mo_font_34 : List (Instr × Nat × Nat) × Nat := ([(.aload_n ⟨0, q_l04⟩, 34, 0), (.iconst 1, 35, 0), (.putfield 113, 36, 0), (.iload_n ⟨1, q_l14⟩, 39, 0), (.ifCond .ne 14, 40, 54), (.aload_n ⟨0, q_l04⟩, 43, 0), (.iconst 2, 44, 0), (.ldc2_w 173, 45, 0), (.invokevirtual 161, 48, 0), (.goto 15, 51, 66)], 54)
def b_Mo_font_54 : List (Instr × Nat × Nat) × Nat := ([(.aload_n ⟨0, q_l04⟩, 54, 0), (.getfield 233, 55, 0), (.ifCond .eq 7, 58, 65), (.iconst 1, 61, 0), (.goto 4, 62, 66)], 65)
def b_Mo_font_65 : List (Instr × Nat × Nat) × Nat := ([(.iconst 0, 65, 0)], 66)
def b_Mo_font_66 : List (Instr × Nat × Nat) × Nat := ([(.ireturn, 66, 0)], 67)
def B_Mo_font : q_B := [(0, b_Mo_font_0), (12, b_Mo_font_12), (21, b_Mo_font_21), (25, b_Mo_font_25), (26, b_Mo_font_26), (34, b_Mo_font_34), (54, b_Mo_font_54), (65, b_Mo_font_65), (66, b_Mo_font_66)]
theorem o_Mo_font : q_okC M_Mo_font B_Mo_font = true := by decide +kernel
theorem u_Mo_font : q_okM M_Mo_font = true := by decide +kernel
theorem l_Mo_font_0 : q_bk B_Mo_font 0 = some ([(.aload_n ⟨0, q_l04⟩, 0, 0), (.aload_n ⟨0, q_l04⟩, 1, 0), (.getfield 230, 2, 0), (.ifCond .ne 7, 5, 12), (.iconst 1, 8, 0), (.goto 17, 9, 26)], 12) := rfl
theorem l_Mo_font_12 : q_bk B_Mo_font 12 = some ([(.iload_n ⟨1, q_l14⟩, 12, 0), (.ifCond .lt 8, 13, 21), (.iload_n ⟨1, q_l14⟩, 16, 0), (.iconst 1, 17, 0), (.if_icmp .le 7, 18, 25)], 21) := rfl
theorem l_Mo_font_21 : q_bk B_Mo_font 21 = some ([(.iconst 2, 21, 0), (.goto 4, 22, 26)], 25) := rfl
theorem l_Mo_font_25 : q_bk B_Mo_font 25 = some ([(.iconst 0, 25, 0)], 26) := rfl
theorem l_Mo_font_26 : q_bk B_Mo_font 26 = some ([(.invokevirtual 101, 26, 0), (.ifCond .eq 5, 29, 34), (.iconst 0, 32, 0), (.ireturn, 33, 0)], 34) := rfl
theorem l_Mo_font_34 : q_bk B_Mo_font 34 = some ([(.aload_n ⟨0, q_l04⟩, 34, 0), (.iconst 1, 35, 0), (.putfield 113, 36, 0), (.iload_n ⟨1, q_l14⟩, 39, 0), (.ifCond .ne 14, 40, 54), (.aload_n ⟨0, q_l04⟩, 43, 0), (.iconst 2, 44, 0), (.ldc2_w 173, 45, 0), (.invokevirtual 161, 48, 0), (.goto 15, 51, 66)], 54) := rfl
theorem l_Mo_font_54 : q_bk B_Mo_font 54 = some ([(.aload_n ⟨0, q_l04⟩, 54, 0), (.getfield 233, 55, 0), (.ifCond .eq 7, 58, 65), (.iconst 1, 61, 0), (.goto 4, 62, 66)], 65) := rfl
theorem l_Mo_font_65 : q_bk B_Mo_font 65 = some ([(.iconst 0, 65, 0)], 66) := rfl
theorem l_Mo_font_66 : q_bk B_Mo_font 66 = some ([(.ireturn, 66, 0)], 67) := rfl
end
section
/-! rewriting rows for walks -/
section Q9
variable {G : q_G} {l : Launch} {M : q_MT} {d mc ms : Nat} {Q : q_P} {B : q_B} {S : List Nat} {K : Nat → q_C} {lv : q_L} {st r : List Value} {h : q_H} {n k sl : Nat}
theorem s_go {f pc : Nat} : q_go G l M d mc ms Q B S (f + 1) pc lv st h n k sl = if S.contains pc = true then q_Z G l M d mc ms Q pc lv st h n k sl else q_op (q_bk B pc) fun b => q_blk G l M d mc ms Q (q_go G l M d mc ms Q B S f) b.2 b.1 lv st h n k sl := rfl
theorem s_nil {e : Nat} : q_blk G l M d mc ms Q K e [] lv st h n k sl = K e lv st h n k sl := rfl
theorem s_cons {e : Nat} {i : Instr} {pc t : Nat} {b : List (Instr × Nat × Nat)} : q_blk G l M d mc ms Q K e ((i, pc, t) :: b) lv st h n k sl = q_ins G l M d mc ms Q K i pc t (q_blk G l M d mc ms Q K e b) lv st h n k sl := rfl
theorem q_c0 {M' : q_MT} {As : List Value} {c : List Value → q_H → Nat → Nat → Nat → Prop} (h1 : k ≤ mc) (h2 : sl ≤ ms) (hc : q_Call G l M' d 0 0 As h n fun v h n => c (v.toList ++ r) h n k sl) : q_cal G l M' d mc ms k sl As h n r c := ⟨0, 0, h1, h2, hc⟩
theorem q_c1 {M' : q_MT} {As : List Value} {c : List Value → q_H → Nat → Nat → Nat → Prop} (mc' ms' : Nat) (h1 : k + mc' ≤ mc) (h2 : sl + ms' ≤ ms) (hc : q_Call G l M' d mc' ms' As h n fun v h n => c (v.toList ++ r) h n (k + mc') (sl + ms')) : q_cal G l M' d mc ms k sl As h n r c := ⟨mc', ms', h1, h2, hc⟩
theorem s_i {x : Int32} {f : Int32 → List Value → Prop} : q_i (.int x :: r) f = f x r := rfl
theorem s_j {x : Int64} {f : Int64 → List Value → Prop} : q_j (.long x :: r) f = f x r := rfl
theorem s_a {x : Nat} {f : Nat → List Value → Prop} : q_a (.ref x :: r) f = f x r := rfl
theorem s_v {x : Value} {f : Value → List Value → Prop} : q_v (x :: r) f = f x r := rfl
theorem s_op {α : Type} {x : α} {f : α → Prop} : q_op (some x) f = f x := rfl
def q_liO (o : Option Value) (f : Int32 → Prop) : Prop := match o with
  | some (.int x) => f x
  | _ => False
def q_ljO (o : Option Value) (f : Int64 → Prop) : Prop := match o with
  | some (.long x) => f x
  | _ => False
def q_laO (o : Option Value) (f : Nat → Prop) : Prop := match o with
  | some (.ref x) => f x
  | _ => False
theorem s_li {i : Nat} {f : Int32 → Prop} : q_li lv i f = q_liO (q_get lv i) f := rfl
theorem s_lj {i : Nat} {f : Int64 → Prop} : q_lj lv i f = q_ljO (q_get lv i) f := rfl
theorem s_la {i : Nat} {f : Nat → Prop} : q_la lv i f = q_laO (q_get lv i) f := rfl
theorem s_liO {x : Int32} {f : Int32 → Prop} : q_liO (some (.int x)) f = f x := rfl
theorem s_ljO {x : Int64} {f : Int64 → Prop} : q_ljO (some (.long x)) f = f x := rfl
theorem s_laO {x : Nat} {f : Nat → Prop} : q_laO (some (.ref x)) f = f x := rfl
theorem s_n2i {x : Int32} : q_n2 (some (.int x)) = some (.int x) := rfl
theorem s_n2r {x : Nat} : q_n2 (some (.ref x)) = some (.ref x) := rfl
theorem s_n2l {x : Int64} : q_n2 (some (.long x)) = none := rfl
theorem s_n2n : q_n2 none = none := rfl
def q_obO (o : Option q_E) (ci : Nat) (f : List Value → Prop) : Prop := match o with
  | some (.inr (c, fs)) => c = ci ∧ f fs
  | _ => False
theorem s_ob {a ci : Nat} {f : List Value → Prop} : q_ob h a ci f = q_obO (h a) ci f := rfl
theorem s_obO {ci : Nat} {fs : List Value} {f : List Value → Prop} : q_obO (some (.inr (ci, fs))) ci f = f fs := by simp [q_obO]
def q_riO (o : Option q_E) (kd : Nat) (f : Nat → (Nat → Int32) → Prop) : Prop := match o with
  | some (.inl (t, m, .inl g)) => t = kd ∧ f m g
  | _ => False
theorem s_ri {a kd : Nat} {f : Nat → (Nat → Int32) → Prop} : q_ri h a kd f = q_riO (h a) kd f := rfl
theorem s_riO {kd m : Nat} {g : Nat → Int32} {f : Nat → (Nat → Int32) → Prop} : q_riO (some (.inl (kd, m, .inl g))) kd f = f m g := by simp [q_riO]
def q_rbO (o : Option q_E) (f : Nat → Nat → (Nat → Int32) → Prop) : Prop := match o with
  | some (.inl (1, m, .inl g)) => f 1 m g
  | some (.inl (3, m, .inl g)) => f 3 m g
  | _ => False
theorem s_rb {a : Nat} {f : Nat → Nat → (Nat → Int32) → Prop} : q_rb h a f = q_rbO (h a) f := rfl
theorem s_rbO {m : Nat} {g : Nat → Int32} {f : Nat → Nat → (Nat → Int32) → Prop} : q_rbO (some (.inl (1, m, .inl g))) f = f 1 m g := rfl
theorem s_rzO {m : Nat} {g : Nat → Int32} {f : Nat → Nat → (Nat → Int32) → Prop} : q_rbO (some (.inl (3, m, .inl g))) f = f 3 m g := rfl
def q_rlO (o : Option q_E) (f : Nat → (Nat → Int64) → Prop) : Prop := match o with
  | some (.inl (2, m, .inr (.inl g))) => f m g
  | _ => False
theorem s_rl {a : Nat} {f : Nat → (Nat → Int64) → Prop} : q_rl h a f = q_rlO (h a) f := rfl
theorem s_rlO {m : Nat} {g : Nat → Int64} {f : Nat → (Nat → Int64) → Prop} : q_rlO (some (.inl (2, m, .inr (.inl g)))) f = f m g := rfl
def q_rqO (o : Option q_E) (f : Nat → (Nat → Option Nat) → Prop) : Prop := match o with
  | some (.inl (4, m, .inr (.inr (.inr (.inr g))))) => f m g
  | _ => False
theorem s_rq {a : Nat} {f : Nat → (Nat → Option Nat) → Prop} : q_rq h a f = q_rqO (h a) f := rfl
theorem s_rqO {m : Nat} {g : Nat → Option Nat} {f : Nat → (Nat → Option Nat) → Prop} : q_rqO (some (.inl (4, m, .inr (.inr (.inr (.inr g)))))) f = f m g := rfl
def q_ryO (o : Option q_E) (f : Nat → vp_A → Prop) : Prop := match o with
  | some (.inl (t, x)) => f t x
  | _ => False
theorem s_ry {a : Nat} {f : Nat → vp_A → Prop} : q_ry h a f = q_ryO (h a) f := rfl
theorem s_ryO {t : Nat} {x : vp_A} {f : Nat → vp_A → Prop} : q_ryO (some (.inl (t, x))) f = f t x := rfl
theorem s_brT {A B : Prop} : q_br True A B = A := propext ⟨fun h => h.1 trivial, fun h => ⟨fun _ => h, fun q => absurd trivial q⟩⟩
theorem s_brF {A B : Prop} : q_br False A B = B := propext ⟨fun h => h.2 id, fun h => ⟨fun q => q.elim, fun _ => h⟩⟩
theorem s_10 : ((1 : Int32) = 0) = False := eq_false (by decide)
theorem s_dn {f : Nat → Prop} : q_dn (d + 1) f = f d := rfl
theorem s_set (h : q_H) (a : Nat) (e : q_E) : q_set h a e a = some e := by simp [q_set]
theorem s_ne (h : q_H) {a b : Nat} (e : q_E) (hn : b ≠ a) : q_set h a e b = h b := by simp [q_set, hn]
theorem s_fi (x : Int32) : (q_fit .int (.int x)) = True := eq_true ⟨rfl, rfl⟩
theorem s_fl (x : Int64) : (q_fit .long (.long x)) = True := eq_true ⟨rfl, rfl⟩
theorem s_fo (c : String) (x : Nat) : (q_fit (.object c) (.ref x)) = True := eq_true ⟨rfl, rfl⟩
theorem s_fa (c : FieldType) (x : Nat) : (q_fit (.array c) (.ref x)) = True := eq_true ⟨rfl, rfl⟩
theorem s_f0 : (q_fit .boolean (.int 0)) = True := eq_true ⟨rfl, rfl⟩
theorem s_f1 : (q_fit .boolean (.int 1)) = True := eq_true ⟨rfl, rfl⟩
theorem s_ni (x : Int32) : (narrow .int (.int x) = .int x) = True := eq_true rfl
theorem s_n0 : (narrow .boolean (.int 0) = .int 0) = True := eq_true rfl
theorem s_n1 : (narrow .boolean (.int 1) = .int 1) = True := eq_true rfl
theorem s_ci (x : Int32) : (Value.int x).category = 1 := rfl
theorem s_cr (x : Nat) : (Value.ref x).category = 1 := rfl
theorem s_tl (v : Value) : (some v).toList = [v] := rfl
theorem s_tn : (none : Option Value).toList = [] := rfl
theorem s_ap (v : Value) : [v] ++ r = v :: r := rfl
theorem s_an : ([] : List Value) ++ r = r := rfl
theorem s_ss (h : q_H) (a : Nat) (e e' : q_E) : q_set (q_set h a e) a e' = q_set h a e' := by
  funext b
  unfold q_set
  by_cases hb : b = a <;> simp [hb]
theorem s_sw (h : q_H) {a b : Nat} (e e' : q_E) (hn : a ≠ b) : q_set (q_set h a e) b e' = q_set (q_set h b e') a e := by
  funext c
  unfold q_set
  by_cases h1 : c = a
  · by_cases h2 : c = b
    · exact absurd (h1.symm.trans h2) hn
    · simp [h1, h2, hn]
  · simp [h1]
theorem s_id (h : q_H) {a : Nat} {e : q_E} (he : h a = some e) : q_set h a e = h := by
  funext c
  unfold q_set
  by_cases h1 : c = a
  · simp [h1, he]
  · simp [h1]
end Q9
end
section
theorem kb_m5 : (Int8.ofInt (-5)).toInt32 = (-5) := by decide +kernel
theorem kb_m4 : (Int8.ofInt (-4)).toInt32 = (-4) := by decide +kernel
theorem kb_m3 : (Int8.ofInt (-3)).toInt32 = (-3) := by decide +kernel
theorem kb_m2 : (Int8.ofInt (-2)).toInt32 = (-2) := by decide +kernel
theorem kb_6 : (Int8.ofInt 6).toInt32 = 6 := by decide +kernel
theorem kb_7 : (Int8.ofInt 7).toInt32 = 7 := by decide +kernel
theorem kb_8 : (Int8.ofInt 8).toInt32 = 8 := by decide +kernel
theorem kb_9 : (Int8.ofInt 9).toInt32 = 9 := by decide +kernel
theorem kb_10 : (Int8.ofInt 10).toInt32 = 10 := by decide +kernel
theorem kb_11 : (Int8.ofInt 11).toInt32 = 11 := by decide +kernel
theorem kb_12 : (Int8.ofInt 12).toInt32 = 12 := by decide +kernel
theorem kb_14 : (Int8.ofInt 14).toInt32 = 14 := by decide +kernel
theorem kb_16 : (Int8.ofInt 16).toInt32 = 16 := by decide +kernel
theorem kb_18 : (Int8.ofInt 18).toInt32 = 18 := by decide +kernel
theorem kb_20 : (Int8.ofInt 20).toInt32 = 20 := by decide +kernel
theorem kb_24 : (Int8.ofInt 24).toInt32 = 24 := by decide +kernel
theorem kb_32 : (Int8.ofInt 32).toInt32 = 32 := by decide +kernel
theorem kb_34 : (Int8.ofInt 34).toInt32 = 34 := by decide +kernel
theorem kb_36 : (Int8.ofInt 36).toInt32 = 36 := by decide +kernel
theorem kb_50 : (Int8.ofInt 50).toInt32 = 50 := by decide +kernel
theorem kb_54 : (Int8.ofInt 54).toInt32 = 54 := by decide +kernel
theorem kb_63 : (Int8.ofInt 63).toInt32 = 63 := by decide +kernel
theorem kb_64 : (Int8.ofInt 64).toInt32 = 64 := by decide +kernel
theorem ks_m16384 : (Int16.ofInt (-16384)).toInt32 = (-16384) := by decide +kernel
theorem ks_128 : (Int16.ofInt 128).toInt32 = 128 := by decide +kernel
theorem ks_200 : (Int16.ofInt 200).toInt32 = 200 := by decide +kernel
theorem ks_255 : (Int16.ofInt 255).toInt32 = 255 := by decide +kernel
theorem ks_256 : (Int16.ofInt 256).toInt32 = 256 := by decide +kernel
theorem ks_512 : (Int16.ofInt 512).toInt32 = 512 := by decide +kernel
theorem ks_2048 : (Int16.ofInt 2048).toInt32 = 2048 := by decide +kernel
theorem ks_3072 : (Int16.ofInt 3072).toInt32 = 3072 := by decide +kernel
theorem ks_16364 : (Int16.ofInt 16364).toInt32 = 16364 := by decide +kernel
theorem ks_16383 : (Int16.ofInt 16383).toInt32 = 16383 := by decide +kernel
theorem ks_16384 : (Int16.ofInt 16384).toInt32 = 16384 := by decide +kernel
theorem ks_32767 : (Int16.ofInt 32767).toInt32 = 32767 := by decide +kernel
theorem kc_m1 : Int32.ofInt (-1) = (-1) := by decide +kernel
theorem kc_0 : Int32.ofInt 0 = 0 := by decide +kernel
theorem kc_1 : Int32.ofInt 1 = 1 := by decide +kernel
theorem kc_2 : Int32.ofInt 2 = 2 := by decide +kernel
theorem kc_3 : Int32.ofInt 3 = 3 := by decide +kernel
theorem kc_4 : Int32.ofInt 4 = 4 := by decide +kernel
theorem kc_5 : Int32.ofInt 5 = 5 := by decide +kernel
theorem kj_0 : Int64.ofNat 0 = 0 := rfl
theorem kj_1 : Int64.ofNat 1 = 1 := rfl
theorem w_FO_init : M_FO_init.1 = 7 := rfl
theorem w_By_init : M_By_init.1 = 0 := rfl
theorem w_Fo_init : M_Fo_init.1 = 3 := rfl
theorem w_Ta_init : M_Ta_init.1 = 6 := rfl
theorem w_Cm_init : M_Cm_init.1 = 1 := rfl
theorem w_Ou_init : M_Ou_init.1 = 4 := rfl
theorem w_Cu_init : M_Cu_init.1 = 2 := rfl
theorem w_Pa_init : M_Pa_init.1 = 5 := rfl
theorem w_FO_feed : M_FO_feed.1 = 7 := rfl
theorem w_By_makeRoom : M_By_makeRoom.1 = 0 := rfl
theorem w_Ma_max : M_Ma_max.1 = 10 := rfl
theorem w_Ma_min : M_Ma_min.1 = 10 := rfl
theorem w_Ar_copyOf : M_Ar_copyOf.1 = 11 := rfl
theorem w_By_addWord : M_By_addWord.1 = 0 := rfl
theorem w_FO_at : M_FO_at.1 = 7 := rfl
theorem w_By_u8 : M_By_u8.1 = 0 := rfl
theorem w_FO_load : M_FO_load.1 = 7 := rfl
theorem w_Fo_takeFile : M_Fo_takeFile.1 = 3 := rfl
theorem w_By_copy : M_By_copy.1 = 0 := rfl
theorem w_Ta_lay : M_Ta_lay.1 = 6 := rfl
theorem w_Fo_firstWrong : M_Fo_firstWrong.1 = 3 := rfl
theorem w_Fo_isFile : M_Fo_isFile.1 = 3 := rfl
theorem w_Fo_tables : M_Fo_tables.1 = 3 := rfl
theorem w_Ta_u16 : M_Ta_u16.1 = 6 := rfl
theorem w_Ta_u8 : M_Ta_u8.1 = 6 := rfl
theorem w_Ta_u32 : M_Ta_u32.1 = 6 := rfl
theorem w_Ta_holds : M_Ta_holds.1 = 6 := rfl
theorem w_Fo_hasSums : M_Fo_hasSums.1 = 3 := rfl
theorem w_Fo_layByEntry : M_Fo_layByEntry.1 = 3 := rfl
theorem w_Fo_sum : M_Fo_sum.1 = 3 := rfl
theorem w_Fo_hasTables : M_Fo_hasTables.1 = 3 := rfl
theorem w_Fo_finds : M_Fo_finds.1 = 3 := rfl
theorem w_Fo_hasCounts : M_Fo_hasCounts.1 = 3 := rfl
theorem w_Fo_hasPlaces : M_Fo_hasPlaces.1 = 3 := rfl
theorem w_Fo_dataPlace : M_Fo_dataPlace.1 = 3 := rfl
theorem w_Cm_isFound : M_Cm_isFound.1 = 1 := rfl
theorem w_Cm_firstEntry : M_Cm_firstEntry.1 = 1 := rfl
theorem w_Cm_hasGroups : M_Cm_hasGroups.1 = 1 := rfl
theorem w_Cm_hasSegments : M_Cm_hasSegments.1 = 1 := rfl
theorem w_Cm_lastOf : M_Cm_lastOf.1 = 1 := rfl
theorem w_Cm_firstOf : M_Cm_firstOf.1 = 1 := rfl
theorem w_Ou_readsAll : M_Ou_readsAll.1 = 4 := rfl
theorem w_Ou_readGlyph : M_Ou_readGlyph.1 = 4 := rfl
theorem w_Ou_addsGlyph : M_Ou_addsGlyph.1 = 4 := rfl
theorem w_Cu_begin : M_Cu_begin.1 = 2 := rfl
theorem w_Cu_u16 : M_Cu_u16.1 = 2 := rfl
theorem w_Cu_pass : M_Cu_pass.1 = 2 := rfl
theorem w_Cu_follow : M_Cu_follow.1 = 2 := rfl
theorem w_Ou_addsParts : M_Ou_addsParts.1 = 4 := rfl
theorem w_Pa_isRead : M_Pa_isRead.1 = 5 := rfl
theorem w_Pa_number : M_Pa_number.1 = 5 := rfl
theorem w_Pa_has : M_Pa_has.1 = 5 := rfl
theorem w_Cu_u8 : M_Cu_u8.1 = 2 := rfl
theorem w_Pa_readFactors : M_Pa_readFactors.1 = 5 := rfl
theorem w_In_bitCount : M_In_bitCount.1 = 12 := rfl
theorem w_Ou_isLaid : M_Ou_isLaid.1 = 4 := rfl
theorem w_Pa_turnedX : M_Pa_turnedX.1 = 5 := rfl
theorem w_Pa_turnedY : M_Pa_turnedY.1 = 5 := rfl
theorem w_Ou_isCoordinate : M_Ou_isCoordinate.1 = 4 := rfl
theorem w_Ou_addsSimple : M_Ou_addsSimple.1 = 4 := rfl
theorem w_Ou_addsContours : M_Ou_addsContours.1 = 4 := rfl
theorem w_Ou_readsFlags : M_Ou_readsFlags.1 = 4 := rfl
theorem w_Ou_readsAxis : M_Ou_readsAxis.1 = 4 := rfl
theorem w_FO_put : M_FO_put.1 = 7 := rfl
theorem w_By_change : M_By_change.1 = 0 := rfl
theorem w_FO_cut : M_FO_cut.1 = 7 := rfl
theorem w_FO_glyph : M_FO_glyph.1 = 7 := rfl
theorem w_FO_needFont : M_FO_needFont.1 = 7 := rfl
theorem w_Cm_glyphOf : M_Cm_glyphOf.1 = 1 := rfl
theorem w_Cm_glyphByGroups : M_Cm_glyphByGroups.1 = 1 := rfl
theorem w_Cm_glyphBySegments : M_Cm_glyphBySegments.1 = 1 := rfl
theorem w_Cm_glyphBySegment : M_Cm_glyphBySegment.1 = 1 := rfl
theorem w_FO_measure : M_FO_measure.1 = 7 := rfl
theorem w_FO_isGlyph : M_FO_isGlyph.1 = 7 := rfl
theorem w_FO_show : M_FO_show.1 = 7 := rfl
theorem w_Fo_widthOf : M_Fo_widthOf.1 = 3 := rfl
theorem w_Fo_leftOf : M_Fo_leftOf.1 = 3 := rfl
theorem w_Ta_s16 : M_Ta_s16.1 = 6 := rfl
theorem w_Ou_least : M_Ou_least.1 = 4 := rfl
theorem w_Ou_greatest : M_Ou_greatest.1 = 4 := rfl
theorem w_FO_point : M_FO_point.1 = 7 := rfl
theorem w_FO_font : M_FO_font.1 = 7 := rfl
theorem w_Mo_init : M_Mo_init.1 = 8 := rfl
theorem w_Mo_thrown : M_Mo_thrown.1 = 8 := rfl
theorem w_Mo_feed : M_Mo_feed.1 = 8 := rfl
theorem w_Mo_put4 : M_Mo_put4.1 = 8 := rfl
theorem w_Mo_put : M_Mo_put.1 = 8 := rfl
theorem w_Mo_refused : M_Mo_refused.1 = 8 := rfl
theorem w_Mo_at : M_Mo_at.1 = 8 := rfl
theorem w_Mo_cut : M_Mo_cut.1 = 8 := rfl
theorem w_Mo_load : M_Mo_load.1 = 8 := rfl
theorem w_Mo_checkFile : M_Mo_checkFile.1 = 8 := rfl
theorem w_Mo_u32 : M_Mo_u32.1 = 8 := rfl
theorem w_Mo_u16 : M_Mo_u16.1 = 8 := rfl
theorem w_Mo_u8 : M_Mo_u8.1 = 8 := rfl
theorem w_Mo_need : M_Mo_need.1 = 8 := rfl
theorem w_Mo_tables : M_Mo_tables.1 = 8 := rfl
theorem w_Mo_checkSums : M_Mo_checkSums.1 = 8 := rfl
theorem w_Mo_sumOf : M_Mo_sumOf.1 = 8 := rfl
theorem w_Mo_findTables : M_Mo_findTables.1 = 8 := rfl
theorem w_Mo_checkForms : M_Mo_checkForms.1 = 8 := rfl
theorem w_Mo_t16 : M_Mo_t16.1 = 8 := rfl
theorem w_Mo_tableAt : M_Mo_tableAt.1 = 8 := rfl
theorem w_Mo_tableLength : M_Mo_tableLength.1 = 8 := rfl
theorem w_Mo_glyphCount : M_Mo_glyphCount.1 = 8 := rfl
theorem w_Mo_longCount : M_Mo_longCount.1 = 8 := rfl
theorem w_Mo_dataAt : M_Mo_dataAt.1 = 8 := rfl
theorem w_Mo_t32 : M_Mo_t32.1 = 8 := rfl
theorem w_Mo_checkMap : M_Mo_checkMap.1 = 8 := rfl
theorem w_Mo_hasMap : M_Mo_hasMap.1 = 8 := rfl
theorem w_Mo_mapAt : M_Mo_mapAt.1 = 8 := rfl
theorem w_Mo_checkGroups : M_Mo_checkGroups.1 = 8 := rfl
theorem w_Mo_checkSegments : M_Mo_checkSegments.1 = 8 := rfl
theorem w_Mo_checkGlyphs : M_Mo_checkGlyphs.1 = 8 := rfl
theorem w_Mo_readGlyph : M_Mo_readGlyph.1 = 8 := rfl
theorem w_Mo_begin : M_Mo_begin.1 = 8 := rfl
theorem w_Mo_s16 : M_Mo_s16.1 = 8 := rfl
theorem w_Mo_readSimple : M_Mo_readSimple.1 = 8 := rfl
theorem w_Mo_readFlags : M_Mo_readFlags.1 = 8 := rfl
theorem w_Mo_readSteps : M_Mo_readSteps.1 = 8 := rfl
theorem w_Mo_isCoordinate : M_Mo_isCoordinate.1 = 8 := rfl
theorem w_Mo_readPart : M_Mo_readPart.1 = 8 := rfl
theorem w_Mo_number : M_Mo_number.1 = 8 := rfl
theorem w_Mo_f16 : M_Mo_f16.1 = 8 := rfl
theorem w_Mo_join : M_Mo_join.1 = 8 := rfl
theorem w_Mo_turned : M_Mo_turned.1 = 8 := rfl
theorem w_Mo_glyph : M_Mo_glyph.1 = 8 := rfl
theorem w_Mo_groupGlyph : M_Mo_groupGlyph.1 = 8 := rfl
theorem w_Mo_segmentGlyph : M_Mo_segmentGlyph.1 = 8 := rfl
theorem w_Mo_measure : M_Mo_measure.1 = 8 := rfl
theorem w_Mo_isGlyph : M_Mo_isGlyph.1 = 8 := rfl
theorem w_Mo_lends : M_Mo_lends.1 = 8 := rfl
theorem w_Mo_width : M_Mo_width.1 = 8 := rfl
theorem w_Mo_left : M_Mo_left.1 = 8 := rfl
theorem w_Mo_bound : M_Mo_bound.1 = 8 := rfl
theorem w_Mo_point : M_Mo_point.1 = 8 := rfl
theorem w_Mo_font : M_Mo_font.1 = 8 := rfl
theorem q_oi_no_7_11 : q_oi 7 11 = false := rfl
theorem q_oi_no_7_18 : q_oi 7 18 = false := rfl
theorem q_oi_no_7_28 : q_oi 7 28 = false := rfl
theorem q_oi_no_3_11 : q_oi 3 11 = false := rfl
theorem q_oi_no_3_20 : q_oi 3 20 = false := rfl
theorem q_oi_no_3_53 : q_oi 3 53 = false := rfl
theorem q_oi_no_4_26 : q_oi 4 26 = false := rfl
theorem q_oi_no_4_39 : q_oi 4 39 = false := rfl
theorem q_oi_no_5_11 : q_oi 5 11 = false := rfl
theorem q_ac_no_0_19 : q_ac 0 19 = false := rfl
theorem q_ac_no_0_25 : q_ac 0 25 = false := rfl
theorem q_ac_no_0_28 : q_ac 0 28 = false := rfl
theorem q_mm_no_0_28 : q_mm 0 28 = none := rfl
theorem q_ac_no_11_304 : q_ac 11 304 = false := rfl
theorem q_ac_no_2_35 : q_ac 2 35 = false := rfl
theorem q_ac_no_5_47 : q_ac 5 47 = false := rfl
theorem q_mm_no_5_47 : q_mm 5 47 = none := rfl
theorem q_ac_no_3_152 : q_ac 3 152 = false := rfl
theorem q_ac_no_4_145 : q_ac 4 145 = false := rfl
theorem q_ac_no_4_150 : q_ac 4 150 = false := rfl
theorem q_ac_no_8_280 : q_ac 8 280 = false := rfl
theorem q_mm_no_8_280 : q_mm 8 280 = none := rfl
theorem q_ac_no_8_296 : q_ac 8 296 = false := rfl
theorem q_mm_no_8_296 : q_mm 8 296 = none := rfl
theorem ty_0_0 : q_ty 0 0 = (.array .byte) := rfl
theorem ty_0_1 : q_ty 0 1 = .int := rfl
theorem ty_1_0 : q_ty 1 0 = (.object "FontOutlines$Table") := rfl
theorem ty_1_1 : q_ty 1 1 = .boolean := rfl
theorem ty_1_2 : q_ty 1 2 = .int := rfl
theorem ty_1_3 : q_ty 1 3 = .int := rfl
theorem ty_2_0 : q_ty 2 0 = (.object "FontOutlines$Bytes") := rfl
theorem ty_2_1 : q_ty 2 1 = .int := rfl
theorem ty_2_2 : q_ty 2 2 = .int := rfl
theorem ty_2_3 : q_ty 2 3 = .boolean := rfl
theorem ty_3_0 : q_ty 3 0 = (.object "FontOutlines$Bytes") := rfl
theorem ty_3_1 : q_ty 3 1 = (.object "FontOutlines$Table") := rfl
theorem ty_3_2 : q_ty 3 2 = (.object "FontOutlines$Table") := rfl
theorem ty_3_3 : q_ty 3 3 = (.object "FontOutlines$Table") := rfl
theorem ty_3_4 : q_ty 3 4 = (.object "FontOutlines$Table") := rfl
theorem ty_3_5 : q_ty 3 5 = (.object "FontOutlines$Table") := rfl
theorem ty_3_6 : q_ty 3 6 = (.object "FontOutlines$Table") := rfl
theorem ty_3_7 : q_ty 3 7 = (.object "FontOutlines$Table") := rfl
theorem ty_3_8 : q_ty 3 8 = (.object "FontOutlines$Table") := rfl
theorem ty_3_9 : q_ty 3 9 = (.object "FontOutlines$Table") := rfl
theorem ty_3_10 : q_ty 3 10 = (.object "FontOutlines$CharacterMap") := rfl
theorem ty_3_11 : q_ty 3 11 = .int := rfl
theorem ty_3_12 : q_ty 3 12 = .int := rfl
theorem ty_3_13 : q_ty 3 13 = .int := rfl
theorem ty_3_14 : q_ty 3 14 = .boolean := rfl
theorem ty_4_0 : q_ty 4 0 = (.array .int) := rfl
theorem ty_4_1 : q_ty 4 1 = (.array .int) := rfl
theorem ty_4_2 : q_ty 4 2 = (.array .int) := rfl
theorem ty_4_3 : q_ty 4 3 = (.array .int) := rfl
theorem ty_4_4 : q_ty 4 4 = (.object "FontOutlines$Cursor") := rfl
theorem ty_4_5 : q_ty 4 5 = (.array (.object "FontOutlines$Part")) := rfl
theorem ty_4_6 : q_ty 4 6 = .int := rfl
theorem ty_4_7 : q_ty 4 7 = .int := rfl
theorem ty_4_8 : q_ty 4 8 = .int := rfl
theorem ty_4_9 : q_ty 4 9 = .int := rfl
theorem ty_5_0 : q_ty 5 0 = (.object "FontOutlines$Cursor") := rfl
theorem ty_5_1 : q_ty 5 1 = .int := rfl
theorem ty_5_2 : q_ty 5 2 = .int := rfl
theorem ty_5_3 : q_ty 5 3 = .int := rfl
theorem ty_5_4 : q_ty 5 4 = .int := rfl
theorem ty_5_5 : q_ty 5 5 = .int := rfl
theorem ty_5_6 : q_ty 5 6 = .int := rfl
theorem ty_5_7 : q_ty 5 7 = .int := rfl
theorem ty_5_8 : q_ty 5 8 = .int := rfl
theorem ty_6_0 : q_ty 6 0 = (.object "FontOutlines$Bytes") := rfl
theorem ty_6_1 : q_ty 6 1 = .int := rfl
theorem ty_6_2 : q_ty 6 2 = .int := rfl
theorem ty_7_0 : q_ty 7 0 = (.object "FontOutlines$Bytes") := rfl
theorem ty_7_1 : q_ty 7 1 = (.object "FontOutlines$Outline") := rfl
theorem ty_7_2 : q_ty 7 2 = (.object "FontOutlines$Font") := rfl
theorem ty_7_3 : q_ty 7 3 = (.object "FontOutlines$Font") := rfl
theorem ty_7_4 : q_ty 7 4 = .boolean := rfl
theorem ty_7_5 : q_ty 7 5 = .int := rfl
theorem ty_8_0 : q_ty 8 0 = .int := rfl
theorem ty_8_1 : q_ty 8 1 = .int := rfl
theorem ty_8_2 : q_ty 8 2 = (.array .int) := rfl
theorem ty_8_3 : q_ty 8 3 = (.array .int) := rfl
theorem ty_8_4 : q_ty 8 4 = .boolean := rfl
theorem ty_8_5 : q_ty 8 5 = .boolean := rfl
theorem ty_8_6 : q_ty 8 6 = .boolean := rfl
theorem ty_8_7 : q_ty 8 7 = .boolean := rfl
theorem ty_8_8 : q_ty 8 8 = (.array .int) := rfl
theorem ty_8_9 : q_ty 8 9 = (.array .int) := rfl
theorem ty_8_10 : q_ty 8 10 = (.array .int) := rfl
theorem ty_8_11 : q_ty 8 11 = (.array .int) := rfl
theorem ty_8_12 : q_ty 8 12 = (.array .int) := rfl
theorem ty_8_13 : q_ty 8 13 = (.array .boolean) := rfl
theorem ty_8_14 : q_ty 8 14 = (.array .int) := rfl
theorem ty_8_15 : q_ty 8 15 = (.array .int) := rfl
theorem ty_8_16 : q_ty 8 16 = (.array .int) := rfl
theorem ty_8_17 : q_ty 8 17 = (.array .int) := rfl
theorem ty_8_18 : q_ty 8 18 = (.array .int) := rfl
theorem ty_8_19 : q_ty 8 19 = (.array .int) := rfl
theorem ty_8_20 : q_ty 8 20 = (.array .int) := rfl
theorem ty_8_21 : q_ty 8 21 = (.array .int) := rfl
theorem ty_8_22 : q_ty 8 22 = (.array .boolean) := rfl
theorem ty_8_23 : q_ty 8 23 = (.array .int) := rfl
theorem ty_8_24 : q_ty 8 24 = (.array .int) := rfl
theorem ty_8_25 : q_ty 8 25 = (.array .int) := rfl
theorem ty_8_26 : q_ty 8 26 = (.array .int) := rfl
theorem ty_8_27 : q_ty 8 27 = (.array .int) := rfl
theorem ty_8_28 : q_ty 8 28 = (.array .int) := rfl
theorem ty_8_29 : q_ty 8 29 = (.array .int) := rfl
theorem ty_8_30 : q_ty 8 30 = .int := rfl
theorem ty_8_31 : q_ty 8 31 = .int := rfl
end
section
/-! numbers in a file: spec words -/
/-- a byte of a stretch (st, ln) of the file F; 0 outside -/
def U8 (F : Nat → Nat) (st ln : Nat) (x : Nat) : Nat := if x < ln then F (st + x) else 0
def U16 (F : Nat → Nat) (st ln : Nat) (x : Nat) : Nat := 256 * U8 F st ln x + U8 F st ln (x + 1)
def U32 (F : Nat → Nat) (st ln : Nat) (x : Nat) : Nat := 65536 * U16 F st ln x + U16 F st ln (x + 2)
def S16 (v : Nat) : Int := if 32767 < v then (v : Int) - 65536 else v
/-- a row of bytes: the object f, its array row of m places g, of which sz are the file F -/
def q_By (h : q_H) (f row m : Nat) (g : Nat → Int32) (sz : Nat) (F : Nat → Nat) : Prop :=
  h f = some (.inr (0, [.ref row, .int (nI sz)])) ∧ h row = some (.inl (1, m, .inl g)) ∧ sz ≤ m ∧ m ≤ 16384 ∧ (∀ j, j < sz → g j &&& 255 = nI (F j)) ∧ (∀ j, fits .byte (.int (g j)) = true) ∧ ∀ j, F j < 256
def q_Ta (h : q_H) (a f st ln : Nat) : Prop := h a = some (.inr (6, [.ref f, .int (nI st), .int (nI ln)]))
theorem U8_lt {F : Nat → Nat} (hF : ∀ j, F j < 256) (st ln : Nat) (x : Nat) : U8 F st ln x < 256 := by
  unfold U8; split
  · exact hF _
  · omega
theorem U16_lt {F : Nat → Nat} (hF : ∀ j, F j < 256) (st ln : Nat) (x : Nat) : U16 F st ln x < 65536 := by
  have := U8_lt hF st ln x; have := U8_lt hF st ln (x + 1); unfold U16; omega
theorem U32_lt {F : Nat → Nat} (hF : ∀ j, F j < 256) (st ln : Nat) (x : Nat) : U32 F st ln x < 4294967296 := by
  have := U16_lt hF st ln x; have := U16_lt hF st ln (x + 2); unfold U32; omega
theorem U8_in {F : Nat → Nat} {st ln j : Nat} (h : j < ln) : U8 F st ln j = F (st + j) := by
  unfold U8; rw [if_pos h]
theorem U8_out {F : Nat → Nat} {st ln j : Nat} (h : ln ≤ j) : U8 F st ln j = 0 := by
  unfold U8; rw [if_neg (by omega)]
set_option maxRecDepth 100000 in
set_option maxHeartbeats 4000000 in
theorem c_Ta_u8 {G : q_G} {l : Launch} {d a f row m n sz st ln j : Nat} {g : Nat → Int32} {F : Nat → Nat} {h : q_H} {Q : q_P} (hT : q_Ta h a f st ln) (hB : q_By h f row m g sz F) (hin : st + ln ≤ sz) (hj : j < 2 ^ 31) (hq : Q (some (.int (nI (U8 F st ln j)))) h n) : q_Call G l M_Ta_u8 d 0 0 [.ref a, .int (nI j)] h n Q := by
  obtain ⟨h2, h3, hsz, hm, hg, hb, hF⟩ := hB
  have h1 : h a = some (.inr (6, [.ref f, .int (nI st), .int (nI ln)])) := hT
  refine q_in u_Ta_u8 (by rw [L_Ta_u8]; exact Nat.le_of_ble_eq_true rfl) ?_
  rw [L_Ta_u8]
  refine q_at o_Ta_u8 [] 20 l_Ta_u8_0 ?_
  simp -implicitDefEqProofs only [s_go, s_nil, s_cons, q_ins, s_op, s_i, s_j, s_a, s_v, s_li, s_lj, s_la, s_liO, s_ljO, s_laO, q_get, q_p1, q_p2, s_n2i, s_n2r, s_n2l, s_n2n, q_pad, q_ar, s_ob, s_obO, q_nth, s_ri, s_riO, s_rb, s_rbO, s_rzO, s_rl, s_rlO, s_rq, s_rqO, s_ry, s_ryO, s_dn, s_tl, s_tn, s_ap, s_an, s_ci, s_cr, s_ni, s_n0, s_n1, q_ags, q_cat, List.contains_nil, List.contains_cons, Nat.reduceBEq, Bool.or_false, Bool.false_or, Bool.true_or, Bool.false_eq_true, ↓reduceIte, Nat.le_refl, Nat.zero_le, true_and, and_true, Nat.reduceLeDiff, Nat.reduceAdd, Nat.add_zero, Nat.zero_add, List.length_cons, List.length_nil, List.set_cons_zero, List.set_cons_succ, Nat.reduceLT, s_fi, s_fl, s_fo, s_fa, s_f0, s_f1, s_set, s_ss, lg_cmp_ge, lg_cmp_le, lg_cmp_gt, lg_cmp_lt, lg_cmp_eq, s_brT, s_brF, s_10, w_Ta_u8, r_Ta_u8, l_Ta_u8_0, l_Ta_u8_50, l_Ta_u8_51, f_6_13, f_6_17, f_6_7, f_6_20, f_6_25, ks_255, kc_0, h1, h2, h3]
  refine ⟨fun c => absurd c (nI_pos hj), fun c => ?_⟩
  refine ⟨fun c1 => ?_, fun c1 => ?_⟩
  · rw [U8_out ((nI_leI (by omega) hj).mp c1)] at hq; exact hq
  have hjl : j < ln := by
    rcases Nat.lt_or_ge j ln with q | q
    · exact q
    · exact absurd ((nI_leI (by omega) hj).mpr q) c1
  rw [nI_add]
  refine ⟨fun c2 => absurd c2 (nI_pos (by omega)), fun c2 => ⟨fun c3 => ?_, fun c3 => ⟨vp_in_nI (by omega) (by omega), ?_⟩⟩⟩
  · exact absurd ((nI_leI (by omega) (by omega)).mp c3) (by omega)
  · rw [nI_clamp (by omega), hg _ (by omega)]
    rw [U8_in hjl] at hq
    exact hq
theorem q_shl (a : Nat) (s : Int32) (k : Nat) (hs : (s.toBitVec.smod 32).toNat = k) (h : a * 2 ^ k < 2 ^ 32) : nI a <<< s = nI (a * 2 ^ k) := pk_shlN s k hs h
theorem q_or {a b k : Nat} (hb : b < 2 ^ k) : nI (a * 2 ^ k) ||| nI b = nI (2 ^ k * a + b) := by
  have e : a * 2 ^ k ||| b = 2 ^ k * a + b := by
    rw [← Nat.shiftLeft_eq, ← Nat.shiftLeft_add_eq_or_of_lt hb, Nat.shiftLeft_eq, Nat.mul_comm]
  rw [← e]
  apply Int32.toBitVec_inj.mp
  show BitVec.ofNat 32 _ ||| BitVec.ofNat 32 _ = BitVec.ofNat 32 _
  rw [BitVec.ofNat_or]
set_option maxRecDepth 100000 in
set_option maxHeartbeats 4000000 in
theorem c_Ta_u16 {G : q_G} {l : Launch} {d a f row m n sz st ln j : Nat} {g : Nat → Int32} {F : Nat → Nat} {h : q_H} {Q : q_P} (hT : q_Ta h a f st ln) (hB : q_By h f row m g sz F) (hin : st + ln ≤ sz) (hj : j < 2147483646) (hq : Q (some (.int (nI (U16 F st ln j)))) h n) : q_Call G l M_Ta_u16 (d + 1) 0 0 [.ref a, .int (nI j)] h n Q := by
  have hF := hB.2.2.2.2.2.2
  have h1 : h a = some (.inr (6, [.ref f, .int (nI st), .int (nI ln)])) := hT
  refine q_in u_Ta_u16 (by rw [L_Ta_u16]; exact Nat.le_of_ble_eq_true rfl) ?_
  rw [L_Ta_u16]
  refine q_at o_Ta_u16 [] 20 l_Ta_u16_0 ?_
  simp -implicitDefEqProofs only [s_go, s_nil, s_cons, q_ins, s_op, s_i, s_j, s_a, s_v, s_li, s_lj, s_la, s_liO, s_ljO, s_laO, q_get, q_p1, q_p2, s_n2i, s_n2r, s_n2l, s_n2n, q_pad, q_ar, s_ob, s_obO, q_nth, s_ri, s_riO, s_rb, s_rbO, s_rzO, s_rl, s_rlO, s_rq, s_rqO, s_ry, s_ryO, s_dn, s_tl, s_tn, s_ap, s_an, s_ci, s_cr, s_ni, s_n0, s_n1, q_ags, q_cat, List.contains_nil, List.contains_cons, Nat.reduceBEq, Bool.or_false, Bool.false_or, Bool.true_or, Bool.false_eq_true, ↓reduceIte, Nat.le_refl, Nat.zero_le, true_and, and_true, Nat.reduceLeDiff, Nat.reduceAdd, Nat.add_zero, Nat.zero_add, List.length_cons, List.length_nil, List.set_cons_zero, List.set_cons_succ, Nat.reduceLT, s_fi, s_fl, s_fo, s_fa, s_f0, s_f1, s_set, s_ss, lg_cmp_ge, lg_cmp_le, lg_cmp_gt, lg_cmp_lt, lg_cmp_eq, s_brT, s_brF, s_10, w_Ta_u16, r_Ta_u16, l_Ta_u16_0, ml_6_29, w_Ta_u8, kb_8, kc_1, h1]
  refine q_c0 (Nat.le_refl _) (Nat.le_refl _) ?_
  refine c_Ta_u8 hT hB hin (by omega) ?_
  simp -implicitDefEqProofs only [s_go, s_nil, s_cons, q_ins, s_op, s_i, s_j, s_a, s_v, s_li, s_lj, s_la, s_liO, s_ljO, s_laO, q_get, q_p1, q_p2, s_n2i, s_n2r, s_n2l, s_n2n, q_pad, q_ar, s_ob, s_obO, q_nth, s_ri, s_riO, s_rb, s_rbO, s_rzO, s_rl, s_rlO, s_rq, s_rqO, s_ry, s_ryO, s_dn, s_tl, s_tn, s_ap, s_an, s_ci, s_cr, s_ni, s_n0, s_n1, q_ags, q_cat, List.contains_nil, List.contains_cons, Nat.reduceBEq, Bool.or_false, Bool.false_or, Bool.true_or, Bool.false_eq_true, ↓reduceIte, Nat.le_refl, Nat.zero_le, true_and, and_true, Nat.reduceLeDiff, Nat.reduceAdd, Nat.add_zero, Nat.zero_add, List.length_cons, List.length_nil, List.set_cons_zero, List.set_cons_succ, Nat.reduceLT, s_fi, s_fl, s_fo, s_fa, s_f0, s_f1, s_set, s_ss, lg_cmp_ge, lg_cmp_le, lg_cmp_gt, lg_cmp_lt, lg_cmp_eq, s_brT, s_brF, s_10, w_Ta_u16, r_Ta_u16, l_Ta_u16_0, ml_6_29, w_Ta_u8, kb_8, kc_1, h1, nI_1]
  refine q_c0 (Nat.le_refl _) (Nat.le_refl _) ?_
  refine c_Ta_u8 hT hB hin (by omega) ?_
  simp -implicitDefEqProofs only [s_go, s_nil, s_cons, q_ins, s_op, s_i, s_j, s_a, s_v, s_li, s_lj, s_la, s_liO, s_ljO, s_laO, q_get, q_p1, q_p2, s_n2i, s_n2r, s_n2l, s_n2n, q_pad, q_ar, s_ob, s_obO, q_nth, s_ri, s_riO, s_rb, s_rbO, s_rzO, s_rl, s_rlO, s_rq, s_rqO, s_ry, s_ryO, s_dn, s_tl, s_tn, s_ap, s_an, s_ci, s_cr, s_ni, s_n0, s_n1, q_ags, q_cat, List.contains_nil, List.contains_cons, Nat.reduceBEq, Bool.or_false, Bool.false_or, Bool.true_or, Bool.false_eq_true, ↓reduceIte, Nat.le_refl, Nat.zero_le, true_and, and_true, Nat.reduceLeDiff, Nat.reduceAdd, Nat.add_zero, Nat.zero_add, List.length_cons, List.length_nil, List.set_cons_zero, List.set_cons_succ, Nat.reduceLT, s_fi, s_fl, s_fo, s_fa, s_f0, s_f1, s_set, s_ss, lg_cmp_ge, lg_cmp_le, lg_cmp_gt, lg_cmp_lt, lg_cmp_eq, s_brT, s_brF, s_10, w_Ta_u16, r_Ta_u16, l_Ta_u16_0, ml_6_29, w_Ta_u8, kb_8, kc_1, h1]
  have b1 := U8_lt hF st ln j
  have b2 := U8_lt hF st ln (j + 1)
  rw [q_shl _ _ 8 (by decide) (by omega), q_or (k := 8) (by omega)]
  exact hq
theorem q_s16 {v : Nat} (h : v < 65536) : (nI v).toInt16.toInt32 = Int32.ofInt (S16 v) := by
  apply Int32.toInt_inj.mp
  rw [Int16.toInt_toInt32, Int32.toInt_toInt16, nI_toInt (by omega), Int32.toInt_ofInt]
  unfold S16
  split <;> simp only [Int.bmod_def, Int32.size] <;> omega
set_option maxRecDepth 100000 in
set_option maxHeartbeats 4000000 in
theorem c_Ta_s16 {G : q_G} {l : Launch} {d a f row m n sz st ln j : Nat} {g : Nat → Int32} {F : Nat → Nat} {h : q_H} {Q : q_P} (hT : q_Ta h a f st ln) (hB : q_By h f row m g sz F) (hin : st + ln ≤ sz) (hj : j < 2147483646) (hq : Q (some (.int (Int32.ofInt (S16 (U16 F st ln j))))) h n) : q_Call G l M_Ta_s16 (d + 2) 0 0 [.ref a, .int (nI j)] h n Q := by
  have hF := hB.2.2.2.2.2.2
  have h1 : h a = some (.inr (6, [.ref f, .int (nI st), .int (nI ln)])) := hT
  refine q_in u_Ta_s16 (by rw [L_Ta_s16]; exact Nat.le_of_ble_eq_true rfl) ?_
  rw [L_Ta_s16]
  refine q_at o_Ta_s16 [] 20 l_Ta_s16_0 ?_
  simp -implicitDefEqProofs only [s_go, s_nil, s_cons, q_ins, s_op, s_i, s_j, s_a, s_v, s_li, s_lj, s_la, s_liO, s_ljO, s_laO, q_get, q_p1, q_p2, s_n2i, s_n2r, s_n2l, s_n2n, q_pad, q_ar, s_ob, s_obO, q_nth, s_ri, s_riO, s_rb, s_rbO, s_rzO, s_rl, s_rlO, s_rq, s_rqO, s_ry, s_ryO, s_dn, s_tl, s_tn, s_ap, s_an, s_ci, s_cr, s_ni, s_n0, s_n1, q_ags, q_cat, List.contains_nil, List.contains_cons, Nat.reduceBEq, Bool.or_false, Bool.false_or, Bool.true_or, Bool.false_eq_true, ↓reduceIte, Nat.le_refl, Nat.zero_le, true_and, and_true, Nat.reduceLeDiff, Nat.reduceAdd, Nat.add_zero, Nat.zero_add, List.length_cons, List.length_nil, List.set_cons_zero, List.set_cons_succ, Nat.reduceLT, s_fi, s_fl, s_fo, s_fa, s_f0, s_f1, s_set, s_ss, lg_cmp_ge, lg_cmp_le, lg_cmp_gt, lg_cmp_lt, lg_cmp_eq, s_brT, s_brF, s_10, w_Ta_s16, r_Ta_s16, l_Ta_s16_0, ml_6_33, w_Ta_u16, h1]
  refine q_c0 (Nat.le_refl _) (Nat.le_refl _) ?_
  refine c_Ta_u16 hT hB hin hj ?_
  simp -implicitDefEqProofs only [s_go, s_nil, s_cons, q_ins, s_op, s_i, s_j, s_a, s_v, s_li, s_lj, s_la, s_liO, s_ljO, s_laO, q_get, q_p1, q_p2, s_n2i, s_n2r, s_n2l, s_n2n, q_pad, q_ar, s_ob, s_obO, q_nth, s_ri, s_riO, s_rb, s_rbO, s_rzO, s_rl, s_rlO, s_rq, s_rqO, s_ry, s_ryO, s_dn, s_tl, s_tn, s_ap, s_an, s_ci, s_cr, s_ni, s_n0, s_n1, q_ags, q_cat, List.contains_nil, List.contains_cons, Nat.reduceBEq, Bool.or_false, Bool.false_or, Bool.true_or, Bool.false_eq_true, ↓reduceIte, Nat.le_refl, Nat.zero_le, true_and, and_true, Nat.reduceLeDiff, Nat.reduceAdd, Nat.add_zero, Nat.zero_add, List.length_cons, List.length_nil, List.set_cons_zero, List.set_cons_succ, Nat.reduceLT, s_fi, s_fl, s_fo, s_fa, s_f0, s_f1, s_set, s_ss, lg_cmp_ge, lg_cmp_le, lg_cmp_gt, lg_cmp_lt, lg_cmp_eq, s_brT, s_brF, s_10, w_Ta_s16, r_Ta_s16, l_Ta_s16_0, ml_6_33, w_Ta_u16, h1, q_s16 (U16_lt hF st ln j)]
  exact hq
theorem q_lor {a b k : Nat} (hb : b < 2 ^ k) : lN (a * 2 ^ k) ||| lN b = lN (2 ^ k * a + b) := by
  have e : a * 2 ^ k ||| b = 2 ^ k * a + b := by
    rw [← Nat.shiftLeft_eq, ← Nat.shiftLeft_add_eq_or_of_lt hb, Nat.shiftLeft_eq, Nat.mul_comm]
  rw [← e]
  apply Int64.toBitVec_inj.mp
  show BitVec.ofNat 64 _ ||| BitVec.ofNat 64 _ = BitVec.ofNat 64 _
  rw [BitVec.ofNat_or]
theorem q_lshl {a : Nat} (h : a < 2 ^ 32) : lN a <<< ((24 : Int32).toInt64 &&& 63) = lN (a * 2 ^ 24) := by
  apply Int64.toBitVec_inj.mp
  rw [Int64.toBitVec_shiftLeft, show (((24 : Int32).toInt64 &&& 63).toBitVec.smod 64) = 24#64 by decide]
  show (BitVec.ofNat 64 a) <<< (24#64) = BitVec.ofNat 64 (a * 2 ^ 24)
  apply BitVec.eq_of_toNat_eq
  simp [BitVec.toNat_shiftLeft, Nat.shiftLeft_eq]
set_option maxRecDepth 100000 in
set_option maxHeartbeats 4000000 in
theorem c_Ta_u32 {G : q_G} {l : Launch} {d a f row m n sz st ln j : Nat} {g : Nat → Int32} {F : Nat → Nat} {h : q_H} {Q : q_P} (hT : q_Ta h a f st ln) (hB : q_By h f row m g sz F) (hin : st + ln ≤ sz) (hj : j < 2147483640) (hq : Q (some (.long (lN (U32 F st ln j)))) h n) : q_Call G l M_Ta_u32 (d + 1) 0 0 [.ref a, .int (nI j)] h n Q := by
  have hF := hB.2.2.2.2.2.2
  have h1 : h a = some (.inr (6, [.ref f, .int (nI st), .int (nI ln)])) := hT
  have e2 : nI j + 2 = nI (j + 2) := nI_add j 2
  have e3 : nI j + 3 = nI (j + 3) := nI_add j 3
  refine q_in u_Ta_u32 (by rw [L_Ta_u32]; exact Nat.le_of_ble_eq_true rfl) ?_
  rw [L_Ta_u32]
  refine q_at o_Ta_u32 [] 20 l_Ta_u32_0 ?_
  simp -implicitDefEqProofs only [s_go, s_nil, s_cons, q_ins, s_op, s_i, s_j, s_a, s_v, s_li, s_lj, s_la, s_liO, s_ljO, s_laO, q_get, q_p1, q_p2, s_n2i, s_n2r, s_n2l, s_n2n, q_pad, q_ar, s_ob, s_obO, q_nth, s_ri, s_riO, s_rb, s_rbO, s_rzO, s_rl, s_rlO, s_rq, s_rqO, s_ry, s_ryO, s_dn, s_tl, s_tn, s_ap, s_an, s_ci, s_cr, s_ni, s_n0, s_n1, q_ags, q_cat, List.contains_nil, List.contains_cons, Nat.reduceBEq, Bool.or_false, Bool.false_or, Bool.true_or, Bool.false_eq_true, ↓reduceIte, Nat.le_refl, Nat.zero_le, true_and, and_true, Nat.reduceLeDiff, Nat.reduceAdd, Nat.add_zero, Nat.zero_add, List.length_cons, List.length_nil, List.set_cons_zero, List.set_cons_succ, Nat.reduceLT, s_fi, s_fl, s_fo, s_fa, s_f0, s_f1, s_set, s_ss, lg_cmp_ge, lg_cmp_le, lg_cmp_gt, lg_cmp_lt, lg_cmp_eq, s_brT, s_brF, s_10, w_Ta_u32, r_Ta_u32, l_Ta_u32_0, ml_6_29, w_Ta_u8, kb_24, kc_1, kb_16, kc_2, kb_8, kc_3, h1]
  refine q_c0 (Nat.le_refl _) (Nat.le_refl _) ?_
  refine c_Ta_u8 hT hB hin (by omega) ?_
  simp -implicitDefEqProofs only [s_go, s_nil, s_cons, q_ins, s_op, s_i, s_j, s_a, s_v, s_li, s_lj, s_la, s_liO, s_ljO, s_laO, q_get, q_p1, q_p2, s_n2i, s_n2r, s_n2l, s_n2n, q_pad, q_ar, s_ob, s_obO, q_nth, s_ri, s_riO, s_rb, s_rbO, s_rzO, s_rl, s_rlO, s_rq, s_rqO, s_ry, s_ryO, s_dn, s_tl, s_tn, s_ap, s_an, s_ci, s_cr, s_ni, s_n0, s_n1, q_ags, q_cat, List.contains_nil, List.contains_cons, Nat.reduceBEq, Bool.or_false, Bool.false_or, Bool.true_or, Bool.false_eq_true, ↓reduceIte, Nat.le_refl, Nat.zero_le, true_and, and_true, Nat.reduceLeDiff, Nat.reduceAdd, Nat.add_zero, Nat.zero_add, List.length_cons, List.length_nil, List.set_cons_zero, List.set_cons_succ, Nat.reduceLT, s_fi, s_fl, s_fo, s_fa, s_f0, s_f1, s_set, s_ss, lg_cmp_ge, lg_cmp_le, lg_cmp_gt, lg_cmp_lt, lg_cmp_eq, s_brT, s_brF, s_10, w_Ta_u32, r_Ta_u32, l_Ta_u32_0, ml_6_29, w_Ta_u8, kb_24, kc_1, kb_16, kc_2, kb_8, kc_3, h1, nI_1]
  refine q_c0 (Nat.le_refl _) (Nat.le_refl _) ?_
  refine c_Ta_u8 hT hB hin (by omega) ?_
  simp -implicitDefEqProofs only [s_go, s_nil, s_cons, q_ins, s_op, s_i, s_j, s_a, s_v, s_li, s_lj, s_la, s_liO, s_ljO, s_laO, q_get, q_p1, q_p2, s_n2i, s_n2r, s_n2l, s_n2n, q_pad, q_ar, s_ob, s_obO, q_nth, s_ri, s_riO, s_rb, s_rbO, s_rzO, s_rl, s_rlO, s_rq, s_rqO, s_ry, s_ryO, s_dn, s_tl, s_tn, s_ap, s_an, s_ci, s_cr, s_ni, s_n0, s_n1, q_ags, q_cat, List.contains_nil, List.contains_cons, Nat.reduceBEq, Bool.or_false, Bool.false_or, Bool.true_or, Bool.false_eq_true, ↓reduceIte, Nat.le_refl, Nat.zero_le, true_and, and_true, Nat.reduceLeDiff, Nat.reduceAdd, Nat.add_zero, Nat.zero_add, List.length_cons, List.length_nil, List.set_cons_zero, List.set_cons_succ, Nat.reduceLT, s_fi, s_fl, s_fo, s_fa, s_f0, s_f1, s_set, s_ss, lg_cmp_ge, lg_cmp_le, lg_cmp_gt, lg_cmp_lt, lg_cmp_eq, s_brT, s_brF, s_10, w_Ta_u32, r_Ta_u32, l_Ta_u32_0, ml_6_29, w_Ta_u8, kb_24, kc_1, kb_16, kc_2, kb_8, kc_3, h1, e2]
  refine q_c0 (Nat.le_refl _) (Nat.le_refl _) ?_
  refine c_Ta_u8 hT hB hin (by omega) ?_
  simp -implicitDefEqProofs only [s_go, s_nil, s_cons, q_ins, s_op, s_i, s_j, s_a, s_v, s_li, s_lj, s_la, s_liO, s_ljO, s_laO, q_get, q_p1, q_p2, s_n2i, s_n2r, s_n2l, s_n2n, q_pad, q_ar, s_ob, s_obO, q_nth, s_ri, s_riO, s_rb, s_rbO, s_rzO, s_rl, s_rlO, s_rq, s_rqO, s_ry, s_ryO, s_dn, s_tl, s_tn, s_ap, s_an, s_ci, s_cr, s_ni, s_n0, s_n1, q_ags, q_cat, List.contains_nil, List.contains_cons, Nat.reduceBEq, Bool.or_false, Bool.false_or, Bool.true_or, Bool.false_eq_true, ↓reduceIte, Nat.le_refl, Nat.zero_le, true_and, and_true, Nat.reduceLeDiff, Nat.reduceAdd, Nat.add_zero, Nat.zero_add, List.length_cons, List.length_nil, List.set_cons_zero, List.set_cons_succ, Nat.reduceLT, s_fi, s_fl, s_fo, s_fa, s_f0, s_f1, s_set, s_ss, lg_cmp_ge, lg_cmp_le, lg_cmp_gt, lg_cmp_lt, lg_cmp_eq, s_brT, s_brF, s_10, w_Ta_u32, r_Ta_u32, l_Ta_u32_0, ml_6_29, w_Ta_u8, kb_24, kc_1, kb_16, kc_2, kb_8, kc_3, h1, e3]
  refine q_c0 (Nat.le_refl _) (Nat.le_refl _) ?_
  refine c_Ta_u8 hT hB hin (by omega) ?_
  simp -implicitDefEqProofs only [s_go, s_nil, s_cons, q_ins, s_op, s_i, s_j, s_a, s_v, s_li, s_lj, s_la, s_liO, s_ljO, s_laO, q_get, q_p1, q_p2, s_n2i, s_n2r, s_n2l, s_n2n, q_pad, q_ar, s_ob, s_obO, q_nth, s_ri, s_riO, s_rb, s_rbO, s_rzO, s_rl, s_rlO, s_rq, s_rqO, s_ry, s_ryO, s_dn, s_tl, s_tn, s_ap, s_an, s_ci, s_cr, s_ni, s_n0, s_n1, q_ags, q_cat, List.contains_nil, List.contains_cons, Nat.reduceBEq, Bool.or_false, Bool.false_or, Bool.true_or, Bool.false_eq_true, ↓reduceIte, Nat.le_refl, Nat.zero_le, true_and, and_true, Nat.reduceLeDiff, Nat.reduceAdd, Nat.add_zero, Nat.zero_add, List.length_cons, List.length_nil, List.set_cons_zero, List.set_cons_succ, Nat.reduceLT, s_fi, s_fl, s_fo, s_fa, s_f0, s_f1, s_set, s_ss, lg_cmp_ge, lg_cmp_le, lg_cmp_gt, lg_cmp_lt, lg_cmp_eq, s_brT, s_brF, s_10, w_Ta_u32, r_Ta_u32, l_Ta_u32_0, ml_6_29, w_Ta_u8, kb_24, kc_1, kb_16, kc_2, kb_8, kc_3, h1]
  have b1 := U8_lt hF st ln j
  have b2 := U8_lt hF st ln (j + 1)
  have b3 := U8_lt hF st ln (j + 2)
  have b4 := U8_lt hF st ln (j + 3)
  rw [q_shl _ _ 16 (by decide) (by omega), q_shl _ _ 8 (by decide) (by omega), nI_l (by omega), nI_l (by omega), nI_l (by omega), nI_l (by omega), q_lshl (by omega), q_lor (k := 24) (by omega),
    show 2 ^ 24 * U8 F st ln j + U8 F st ln (j + 1) * 2 ^ 16 = (256 * U8 F st ln j + U8 F st ln (j + 1)) * 2 ^ 16 by omega, q_lor (k := 16) (by omega),
    show 2 ^ 16 * (256 * U8 F st ln j + U8 F st ln (j + 1)) + U8 F st ln (j + 2) * 2 ^ 8 = (256 * (256 * U8 F st ln j + U8 F st ln (j + 1)) + U8 F st ln (j + 2)) * 2 ^ 8 by omega, q_lor (k := 8) (by omega),
    show 2 ^ 8 * (256 * (256 * U8 F st ln j + U8 F st ln (j + 1)) + U8 F st ln (j + 2)) + U8 F st ln (j + 3) = U32 F st ln j by unfold U32 U16; rw [show j + 2 + 1 = j + 3 from rfl]; omega]
  exact hq
/-- lies many from from on in the table? -/
def q_z (p : Prop) [Decidable p] : Int32 := if p then 1 else 0
theorem q_z_t {p : Prop} [Decidable p] (h : p) : q_z p = 1 := if_pos h
theorem q_z_f {p : Prop} [Decidable p] (h : ¬ p) : q_z p = 0 := if_neg h
set_option maxRecDepth 100000 in
set_option maxHeartbeats 4000000 in
theorem c_Ta_holds {G : q_G} {l : Launch} {d a f n st ln x y : Nat} {h : q_H} {Q : q_P} (hT : q_Ta h a f st ln) (hl : ln ≤ 16384) (hx : x < 2 ^ 62) (hy : y < 2 ^ 62) (hq : Q (some (.int (q_z (x + y ≤ ln)))) h n) : q_Call G l M_Ta_holds d 0 0 [.ref a, .long (lN x), .long (lN y)] h n Q := by
  have h1 : h a = some (.inr (6, [.ref f, .int (nI st), .int (nI ln)])) := hT
  refine q_in u_Ta_holds (by rw [L_Ta_holds]; exact Nat.le_of_ble_eq_true rfl) ?_
  rw [L_Ta_holds]
  refine q_at o_Ta_holds [] 20 l_Ta_holds_0 ?_
  simp -implicitDefEqProofs only [s_go, s_nil, s_cons, q_ins, s_op, s_i, s_j, s_a, s_v, s_li, s_lj, s_la, s_liO, s_ljO, s_laO, q_get, q_p1, q_p2, s_n2i, s_n2r, s_n2l, s_n2n, q_pad, q_ar, s_ob, s_obO, q_nth, s_ri, s_riO, s_rb, s_rbO, s_rzO, s_rl, s_rlO, s_rq, s_rqO, s_ry, s_ryO, s_dn, s_tl, s_tn, s_ap, s_an, s_ci, s_cr, s_ni, s_n0, s_n1, q_ags, q_cat, List.contains_nil, List.contains_cons, Nat.reduceBEq, Bool.or_false, Bool.false_or, Bool.true_or, Bool.false_eq_true, ↓reduceIte, Nat.le_refl, Nat.zero_le, true_and, and_true, Nat.reduceLeDiff, Nat.reduceAdd, Nat.add_zero, Nat.zero_add, List.length_cons, List.length_nil, List.set_cons_zero, List.set_cons_succ, Nat.reduceLT, s_fi, s_fl, s_fo, s_fa, s_f0, s_f1, s_set, s_ss, lg_cmp_ge, lg_cmp_le, lg_cmp_gt, lg_cmp_lt, lg_cmp_eq, s_brT, s_brF, s_10, w_Ta_holds, r_Ta_holds, l_Ta_holds_0, l_Ta_holds_28, l_Ta_holds_29, kj_0, f_6_17, kc_1, kc_0, h1, lN_add, nI_l (show ln < 2 ^ 31 by omega)]
  have nn : ∀ z : Nat, z < 2 ^ 62 → ¬ lN z < 0 := fun z hz q => absurd ((pk_lLT (a := z) (b := 0) (by omega) (by omega)).mp q) (by omega)
  refine ⟨fun c => absurd c (nn x hx), fun _ => ⟨fun c => absurd c (nn y hy), fun _ => ⟨fun c => ?_, fun c => ?_⟩⟩⟩
  · rw [q_z_f (by have := (pk_lLT (by omega) (by omega)).mp c; omega)] at hq; exact hq
  · rw [q_z_t (by
      rcases Nat.lt_or_ge ln (x + y) with q | q
      · exact absurd ((pk_lLT (by omega) (by omega)).mpr q) c
      · exact q)] at hq
    exact hq
set_option maxRecDepth 100000 in
set_option maxHeartbeats 4000000 in
theorem c_Ta_lay {G : q_G} {l : Launch} {d a f n st ln st' ln' : Nat} {h : q_H} {Q : q_P} (hT : q_Ta h a f st ln) (hq : Q none (q_set h a (.inr (6, [.ref f, .int (nI st'), .int (nI ln')]))) n) : q_Call G l M_Ta_lay d 0 0 [.ref a, .int (nI st'), .int (nI ln')] h n Q := by
  have h1 : h a = some (.inr (6, [.ref f, .int (nI st), .int (nI ln)])) := hT
  refine q_in u_Ta_lay (by rw [L_Ta_lay]; exact Nat.le_of_ble_eq_true rfl) ?_
  rw [L_Ta_lay]
  refine q_at o_Ta_lay [] 20 l_Ta_lay_0 ?_
  simp -implicitDefEqProofs only [s_go, s_nil, s_cons, q_ins, s_op, s_i, s_j, s_a, s_v, s_li, s_lj, s_la, s_liO, s_ljO, s_laO, q_get, q_p1, q_p2, s_n2i, s_n2r, s_n2l, s_n2n, q_pad, q_ar, s_ob, s_obO, q_nth, s_ri, s_riO, s_rb, s_rbO, s_rzO, s_rl, s_rlO, s_rq, s_rqO, s_ry, s_ryO, s_dn, s_tl, s_tn, s_ap, s_an, s_ci, s_cr, s_ni, s_n0, s_n1, q_ags, q_cat, List.contains_nil, List.contains_cons, Nat.reduceBEq, Bool.or_false, Bool.false_or, Bool.true_or, Bool.false_eq_true, ↓reduceIte, Nat.le_refl, Nat.zero_le, true_and, and_true, Nat.reduceLeDiff, Nat.reduceAdd, Nat.add_zero, Nat.zero_add, List.length_cons, List.length_nil, List.set_cons_zero, List.set_cons_succ, Nat.reduceLT, s_fi, s_fl, s_fo, s_fa, s_f0, s_f1, s_set, s_ss, lg_cmp_ge, lg_cmp_le, lg_cmp_gt, lg_cmp_lt, lg_cmp_eq, s_brT, s_brF, s_10, w_Ta_lay, r_Ta_lay, l_Ta_lay_0, f_6_13, ty_6_1, f_6_17, ty_6_2, h1]
  exact hq
end
section
/-! Cursor -/
def q_Cu (h : q_H) (a f p e : Nat) (ro : Int32) : Prop := h a = some (.inr (2, [.ref f, .int (nI p), .int (nI e), .int ro]))
def e_Cu (f p e : Nat) (ro : Int32) : q_E := .inr (2, [.ref f, .int (nI p), .int (nI e), .int ro])
theorem q_nlt {a b : Nat} (ha : a < 2 ^ 31) (hb : b < 2 ^ 31) (h : ¬ nI a < nI b) : b ≤ a := by
  rcases Nat.lt_or_ge a b with q | q
  · exact absurd ((nI_ltI ha hb).mpr q) h
  · exact q
theorem q_nle {a b : Nat} (ha : a < 2 ^ 31) (hb : b < 2 ^ 31) (h : ¬ nI a ≤ nI b) : b < a := by
  rcases Nat.lt_or_ge b a with q | q
  · exact q
  · exact absurd ((nI_leI ha hb).mpr q) h
theorem nI_1' : (1 : Int32) = nI 1 := rfl
theorem nI_2' : (2 : Int32) = nI 2 := rfl
set_option maxRecDepth 100000 in
set_option maxHeartbeats 4000000 in
theorem c_Cu_u8 {G : q_G} {l : Launch} {d a f row m n sz p e : Nat} {ro : Int32} {g : Nat → Int32} {F : Nat → Nat} {h : q_H} {Q : q_P} (hC : q_Cu h a f p e ro) (hB : q_By h f row m g sz F) (he : e ≤ sz) (hpe : p ≤ e)
    (q1 : p < e → Q (some (.int (nI (F p)))) (q_set h a (e_Cu f (p + 1) e ro)) n) (q2 : e ≤ p → Q (some (.int 0)) (q_set h a (e_Cu f p e 1)) n) : q_Call G l M_Cu_u8 d 0 0 [.ref a] h n Q := by
  obtain ⟨h2, h3, hsz, hm, hg, hb, hF⟩ := hB
  have h1 : h a = some (.inr (2, [.ref f, .int (nI p), .int (nI e), .int ro])) := hC
  refine q_in u_Cu_u8 (by rw [L_Cu_u8]; exact Nat.le_of_ble_eq_true rfl) ?_
  rw [L_Cu_u8]
  refine q_at o_Cu_u8 [] 20 l_Cu_u8_0 ?_
  simp -implicitDefEqProofs only [s_go, s_nil, s_cons, q_ins, s_op, s_i, s_j, s_a, s_v, s_li, s_lj, s_la, s_liO, s_ljO, s_laO, q_get, q_p1, q_p2, s_n2i, s_n2r, s_n2l, s_n2n, q_pad, q_ar, s_ob, s_obO, q_nth, s_ri, s_riO, s_rb, s_rbO, s_rzO, s_rl, s_rlO, s_rq, s_rqO, s_ry, s_ryO, s_dn, s_tl, s_tn, s_ap, s_an, s_ci, s_cr, s_ni, s_n0, s_n1, q_ags, q_cat, List.contains_nil, List.contains_cons, Nat.reduceBEq, Bool.or_false, Bool.false_or, Bool.true_or, Bool.false_eq_true, ↓reduceIte, Nat.le_refl, Nat.zero_le, true_and, and_true, Nat.reduceLeDiff, Nat.reduceAdd, Nat.add_zero, Nat.zero_add, List.length_cons, List.length_nil, List.set_cons_zero, List.set_cons_succ, Nat.reduceLT, s_fi, s_fl, s_fo, s_fa, s_f0, s_f1, s_set, s_ss, lg_cmp_ge, lg_cmp_le, lg_cmp_gt, lg_cmp_lt, lg_cmp_eq, s_brT, s_brF, s_10, w_Cu_u8, r_Cu_u8, l_Cu_u8_0, l_Cu_u8_20, l_Cu_u8_27, f_2_13, f_2_17, kc_1, f_2_20, ty_2_3, kc_0, f_2_7, f_2_41, ks_255, ty_2_1, h1, h2, h3, pk_sub hpe]
  refine ⟨fun c => absurd c (nI_pos (by omega)), fun _ => ⟨fun c => ?_, fun c => ?_⟩⟩
  · have hl : p < e := by have := (nI_leI (a := 1) (by omega) (by omega)).mp c; omega
    refine ⟨vp_in_nI (by omega) (by omega), ?_⟩
    rw [nI_clamp (by omega), hg p (by omega), nI_1]
    exact q1 hl
  · exact q2 (by have := q_nle (a := 1) (by omega) (by omega) c; omega)
set_option maxRecDepth 100000 in
set_option maxHeartbeats 4000000 in
theorem c_Cu_u16 {G : q_G} {l : Launch} {d a f row m n sz p e : Nat} {ro : Int32} {g : Nat → Int32} {F : Nat → Nat} {h : q_H} {Q : q_P} (hC : q_Cu h a f p e ro) (hB : q_By h f row m g sz F) (he : e ≤ sz) (hpe : p ≤ e)
    (q1 : p + 2 ≤ e → Q (some (.int (nI (256 * F p + F (p + 1))))) (q_set h a (e_Cu f (p + 2) e ro)) n) (q2 : e < p + 2 → Q (some (.int 0)) (q_set h a (e_Cu f p e 1)) n) : q_Call G l M_Cu_u16 d 0 0 [.ref a] h n Q := by
  obtain ⟨h2, h3, hsz, hm, hg, hb, hF⟩ := hB
  have h1 : h a = some (.inr (2, [.ref f, .int (nI p), .int (nI e), .int ro])) := hC
  refine q_in u_Cu_u16 (by rw [L_Cu_u16]; exact Nat.le_of_ble_eq_true rfl) ?_
  rw [L_Cu_u16]
  refine q_at o_Cu_u16 [] 20 l_Cu_u16_0 ?_
  simp -implicitDefEqProofs only [s_go, s_nil, s_cons, q_ins, s_op, s_i, s_j, s_a, s_v, s_li, s_lj, s_la, s_liO, s_ljO, s_laO, q_get, q_p1, q_p2, s_n2i, s_n2r, s_n2l, s_n2n, q_pad, q_ar, s_ob, s_obO, q_nth, s_ri, s_riO, s_rb, s_rbO, s_rzO, s_rl, s_rlO, s_rq, s_rqO, s_ry, s_ryO, s_dn, s_tl, s_tn, s_ap, s_an, s_ci, s_cr, s_ni, s_n0, s_n1, q_ags, q_cat, List.contains_nil, List.contains_cons, Nat.reduceBEq, Bool.or_false, Bool.false_or, Bool.true_or, Bool.false_eq_true, ↓reduceIte, Nat.le_refl, Nat.zero_le, true_and, and_true, Nat.reduceLeDiff, Nat.reduceAdd, Nat.add_zero, Nat.zero_add, List.length_cons, List.length_nil, List.set_cons_zero, List.set_cons_succ, Nat.reduceLT, s_fi, s_fl, s_fo, s_fa, s_f0, s_f1, s_set, s_ss, lg_cmp_ge, lg_cmp_le, lg_cmp_gt, lg_cmp_lt, lg_cmp_eq, s_brT, s_brF, s_10, w_Cu_u16, r_Cu_u16, l_Cu_u16_0, l_Cu_u16_20, l_Cu_u16_27, f_2_13, f_2_17, kc_2, kc_1, f_2_20, ty_2_3, kc_0, f_2_7, f_2_41, ks_255, kb_8, ty_2_1, h1, h2, h3, pk_sub hpe, nI_1]
  refine ⟨fun c => absurd c (nI_pos (by omega)), fun _ => ⟨fun c => ?_, fun c => ?_⟩⟩
  · have hl : p + 2 ≤ e := by have := (nI_leI (a := 2) (by omega) (by omega)).mp c; omega
    refine ⟨vp_in_nI (by omega) (by omega), vp_in_nI (by omega) (by omega), ?_⟩
    rw [nI_clamp (by omega), nI_clamp (by omega), hg p (by omega), hg (p + 1) (by omega), q_shl _ _ 8 (by decide) (by have := hF p; omega), q_or (k := 8) (hF _), show nI p + 2 = nI (p + 2) from nI_add p 2]
    exact q1 hl
  · exact q2 (by have := q_nle (a := 2) (by omega) (by omega) c; omega)
set_option maxRecDepth 100000 in
set_option maxHeartbeats 4000000 in
theorem c_Cu_pass {G : q_G} {l : Launch} {d a f n p e k : Nat} {ro : Int32} {h : q_H} {Q : q_P} (hC : q_Cu h a f p e ro) (he : e ≤ 16384) (hpe : p ≤ e) (hk : k < 65536)
    (q1 : p + k ≤ e → Q none (q_set h a (e_Cu f (p + k) e ro)) n) (q2 : e < p + k → Q none (q_set h a (e_Cu f p e 1)) n) : q_Call G l M_Cu_pass d 0 0 [.ref a, .int (nI k)] h n Q := by
  have h1 : h a = some (.inr (2, [.ref f, .int (nI p), .int (nI e), .int ro])) := hC
  refine q_in u_Cu_pass (by rw [L_Cu_pass]; exact Nat.le_of_ble_eq_true rfl) ?_
  rw [L_Cu_pass]
  refine q_at o_Cu_pass [] 20 l_Cu_pass_0 ?_
  simp -implicitDefEqProofs only [s_go, s_nil, s_cons, q_ins, s_op, s_i, s_j, s_a, s_v, s_li, s_lj, s_la, s_liO, s_ljO, s_laO, q_get, q_p1, q_p2, s_n2i, s_n2r, s_n2l, s_n2n, q_pad, q_ar, s_ob, s_obO, q_nth, s_ri, s_riO, s_rb, s_rbO, s_rzO, s_rl, s_rlO, s_rq, s_rqO, s_ry, s_ryO, s_dn, s_tl, s_tn, s_ap, s_an, s_ci, s_cr, s_ni, s_n0, s_n1, q_ags, q_cat, List.contains_nil, List.contains_cons, Nat.reduceBEq, Bool.or_false, Bool.false_or, Bool.true_or, Bool.false_eq_true, ↓reduceIte, Nat.le_refl, Nat.zero_le, true_and, and_true, Nat.reduceLeDiff, Nat.reduceAdd, Nat.add_zero, Nat.zero_add, List.length_cons, List.length_nil, List.set_cons_zero, List.set_cons_succ, Nat.reduceLT, s_fi, s_fl, s_fo, s_fa, s_f0, s_f1, s_set, s_ss, lg_cmp_ge, lg_cmp_le, lg_cmp_gt, lg_cmp_lt, lg_cmp_eq, s_brT, s_brF, s_10, w_Cu_pass, r_Cu_pass, l_Cu_pass_0, l_Cu_pass_21, l_Cu_pass_31, f_2_17, f_2_13, kc_1, f_2_20, ty_2_3, ty_2_1, h1, pk_sub hpe]
  refine ⟨fun c => ?_, fun c => ?_⟩
  · rw [nI_add]
    exact q1 (by have := (nI_leI (by omega) (by omega)).mp c; omega)
  · exact q2 (by have := q_nle (by omega) (by omega) c; omega)
set_option maxRecDepth 100000 in
set_option maxHeartbeats 4000000 in
theorem c_Cu_begin {G : q_G} {l : Launch} {d a b f f' row n sz st ln fr to p e : Nat} {ro : Int32} {h : q_H} {Q : q_P} (hab : a ≠ b) (haf : f ≠ a) (hC : q_Cu h a f' p e ro) (hT : q_Ta h b f st ln) (hf : h f = some (.inr (0, [.ref row, .int (nI sz)]))) (hsz : sz ≤ 16384) (hto : st + to ≤ sz) (hfr : fr ≤ to)
    (q1 : Q none (q_set h a (e_Cu f (st + fr) (st + to) 0)) n) : q_Call G l M_Cu_begin (d + 1) 0 0 [.ref a, .ref b, .int (nI fr), .int (nI to)] h n Q := by
  have h1 : h a = some (.inr (2, [.ref f', .int (nI p), .int (nI e), .int ro])) := hC
  have h2 : h b = some (.inr (6, [.ref f, .int (nI st), .int (nI ln)])) := hT
  refine q_in u_Cu_begin (by rw [L_Cu_begin]; exact Nat.le_of_ble_eq_true rfl) ?_
  rw [L_Cu_begin]
  refine q_at o_Cu_begin [] 20 l_Cu_begin_0 ?_
  simp -implicitDefEqProofs only [s_go, s_nil, s_cons, q_ins, s_op, s_i, s_j, s_a, s_v, s_li, s_lj, s_la, s_liO, s_ljO, s_laO, q_get, q_p1, q_p2, s_n2i, s_n2r, s_n2l, s_n2n, q_pad, q_ar, s_ob, s_obO, q_nth, s_ri, s_riO, s_rb, s_rbO, s_rzO, s_rl, s_rlO, s_rq, s_rqO, s_ry, s_ryO, s_dn, s_tl, s_tn, s_ap, s_an, s_ci, s_cr, s_ni, s_n0, s_n1, q_ags, q_cat, List.contains_nil, List.contains_cons, Nat.reduceBEq, Bool.or_false, Bool.false_or, Bool.true_or, Bool.false_eq_true, ↓reduceIte, Nat.le_refl, Nat.zero_le, true_and, and_true, Nat.reduceLeDiff, Nat.reduceAdd, Nat.add_zero, Nat.zero_add, List.length_cons, List.length_nil, List.set_cons_zero, List.set_cons_succ, Nat.reduceLT, s_fi, s_fl, s_fo, s_fa, s_f0, s_f1, s_set, s_ss, lg_cmp_ge, lg_cmp_le, lg_cmp_gt, lg_cmp_lt, lg_cmp_eq, s_brT, s_brF, s_10, w_Cu_begin, r_Cu_begin, l_Cu_begin_0, f_2_24, f_2_7, ty_2_0, f_2_27, f_2_13, ty_2_1, f_2_30, mm_2_35, q_ac_no_2_35, f_2_17, ty_2_2, kc_0, f_2_20, ty_2_3, h1, h2, hf, s_ne _ _ hab.symm, s_ne _ _ haf, nI_add, if_neg (nI_nlt (show st + to ≤ sz from hto) (by omega))]
  exact q1
set_option maxRecDepth 100000 in
set_option maxHeartbeats 4000000 in
theorem c_Cu_follow {G : q_G} {l : Launch} {d a b f f' n p e p' e' : Nat} {ro ro' : Int32} {h : q_H} {Q : q_P} (hab : a ≠ b) (hC : q_Cu h a f' p' e' ro') (hD : q_Cu h b f p e ro) (hro : q_fit .boolean (.int ro))
    (q1 : Q none (q_set h a (e_Cu f p e ro)) n) : q_Call G l M_Cu_follow d 0 0 [.ref a, .ref b] h n Q := by
  have h1 : h a = some (.inr (2, [.ref f', .int (nI p'), .int (nI e'), .int ro'])) := hC
  have h2 : h b = some (.inr (2, [.ref f, .int (nI p), .int (nI e), .int ro])) := hD
  refine q_in u_Cu_follow (by rw [L_Cu_follow]; exact Nat.le_of_ble_eq_true rfl) ?_
  rw [L_Cu_follow]
  refine q_at o_Cu_follow [] 20 l_Cu_follow_0 ?_
  simp -implicitDefEqProofs only [s_go, s_nil, s_cons, q_ins, s_op, s_i, s_j, s_a, s_v, s_li, s_lj, s_la, s_liO, s_ljO, s_laO, q_get, q_p1, q_p2, s_n2i, s_n2r, s_n2l, s_n2n, q_pad, q_ar, s_ob, s_obO, q_nth, s_ri, s_riO, s_rb, s_rbO, s_rzO, s_rl, s_rlO, s_rq, s_rqO, s_ry, s_ryO, s_dn, s_tl, s_tn, s_ap, s_an, s_ci, s_cr, s_ni, s_n0, s_n1, q_ags, q_cat, List.contains_nil, List.contains_cons, Nat.reduceBEq, Bool.or_false, Bool.false_or, Bool.true_or, Bool.false_eq_true, ↓reduceIte, Nat.le_refl, Nat.zero_le, true_and, and_true, Nat.reduceLeDiff, Nat.reduceAdd, Nat.add_zero, Nat.zero_add, List.length_cons, List.length_nil, List.set_cons_zero, List.set_cons_succ, Nat.reduceLT, s_fi, s_fl, s_fo, s_fa, s_f0, s_f1, s_set, s_ss, lg_cmp_ge, lg_cmp_le, lg_cmp_gt, lg_cmp_lt, lg_cmp_eq, s_brT, s_brF, s_10, w_Cu_follow, r_Cu_follow, l_Cu_follow_0, f_2_7, ty_2_0, f_2_13, ty_2_1, f_2_17, ty_2_2, f_2_20, ty_2_3, h1, h2, s_ne _ _ hab.symm]
  exact ⟨hro, q1⟩
end
section
/-! signed numbers; Part -/
def iI (z : Int) : Int32 := Int32.ofInt z
def lI (z : Int) : Int64 := Int64.ofInt z
theorem iI_toInt {z : Int} (h1 : -2147483648 ≤ z) (h2 : z < 2147483648) : (iI z).toInt = z := by
  unfold iI; rw [Int32.toInt_ofInt]; simp only [Int.bmod_def, Int32.size]; omega
theorem lI_toInt {z : Int} (h1 : -9223372036854775808 ≤ z) (h2 : z < 9223372036854775808) : (lI z).toInt = z := by
  unfold lI; rw [Int64.toInt_ofInt]; simp only [Int.bmod_def, Int64.size]; omega
theorem iI_nat (n : Nat) : iI (n : Int) = nI n := rfl
theorem iI_l {z : Int} (h1 : -2147483648 ≤ z) (h2 : z < 2147483648) : (iI z).toInt64 = lI z := by
  apply Int64.toInt_inj.mp
  rw [Int32.toInt_toInt64, iI_toInt h1 h2, lI_toInt (by omega) (by omega)]
theorem lI_add (a b : Int) : lI a + lI b = lI (a + b) := (Int64.ofInt_add a b).symm
theorem lI_mul (a b : Int) : lI a * lI b = lI (a * b) := (Int64.ofInt_mul a b).symm
theorem iI_add (a b : Int) : iI a + iI b = iI (a + b) := (Int32.ofInt_add a b).symm
theorem iI_sub (a b : Int) : iI a - iI b = iI (a - b) := (Int32.ofInt_sub a b).symm
theorem lI_i (z : Int) : (lI z).toInt32 = iI z := by
  apply Int32.toInt_inj.mp
  rw [Int64.toInt_toInt32]
  unfold lI iI
  rw [Int64.toInt_ofInt, Int32.toInt_ofInt]
  simp only [Int.bmod_def, Int32.size, Int64.size]
  omega
theorem lI_shr14 {z : Int} (h1 : -9223372036854775808 ≤ z) (h2 : z < 9223372036854775808) : lI z >>> ((14 : Int32).toInt64 &&& 63) = lI (z / 16384) := by
  apply Int64.toInt_inj.mp
  rw [lI_toInt (by omega) (by omega), ← Int64.toInt_toBitVec, Int64.toBitVec_shiftRight, show (((14 : Int32).toInt64 &&& 63).toBitVec.smod 64) = 14#64 by decide, BitVec.sshiftRight', BitVec.toInt_sshiftRight, Int64.toInt_toBitVec, lI_toInt h1 h2, Int.shiftRight_eq_div_pow]
  rfl
/-- a part's point is turned: a x + c y, in 16384ths, rounded down -/
def TR (a x c y : Int) : Int := (a * x + c * y) / 16384
def q_sm (z : Int) : Prop := -32768 ≤ z ∧ z < 32768
theorem q_mulb {a x : Int} (ha : q_sm a) (hx : q_sm x) : -1073741824 ≤ a * x ∧ a * x ≤ 1073741824 := by
  obtain ⟨a1, a2⟩ := ha
  obtain ⟨x1, x2⟩ := hx
  have h1 : 0 ≤ (a + 32768) * (x + 32768) := Int.mul_nonneg (by omega) (by omega)
  have h2 : 0 ≤ (32768 - a) * (x + 32768) := Int.mul_nonneg (by omega) (by omega)
  have h3 : 0 ≤ (a + 32768) * (32768 - x) := Int.mul_nonneg (by omega) (by omega)
  have h4 : 0 ≤ (32768 - a) * (32768 - x) := Int.mul_nonneg (by omega) (by omega)
  simp only [Int.add_mul, Int.mul_add, Int.sub_mul, Int.mul_sub] at h1 h2 h3 h4
  constructor <;> omega
theorem TR_b {a x c y : Int} (ha : q_sm a) (hx : q_sm x) (hc : q_sm c) (hy : q_sm y) : -131072 ≤ TR a x c y ∧ TR a x c y ≤ 131072 := by
  have h1 := q_mulb ha hx
  have h2 := q_mulb hc hy
  unfold TR
  omega
def e_Pa (cu : Nat) (fl ch p q a b c d : Int32) : q_E := .inr (5, [.ref cu, .int fl, .int ch, .int p, .int q, .int a, .int b, .int c, .int d])
set_option maxRecDepth 100000 in
set_option maxHeartbeats 4000000 in
theorem c_Pa_turnedX {G : q_G} {l : Launch} {dd o cu n : Nat} {fl ch p q : Int32} {a b c d x y : Int} {h : q_H} {Q : q_P} (hP : h o = some (e_Pa cu fl ch p q (iI a) (iI b) (iI c) (iI d))) (ha : q_sm a) (hc : q_sm c) (hx : q_sm x) (hy : q_sm y) (hq : Q (some (.int (iI (TR a x c y)))) h n) : q_Call G l M_Pa_turnedX dd 0 0 [.ref o, .int (iI x), .int (iI y)] h n Q := by
  unfold e_Pa at hP
  have r : ∀ z, q_sm z → (iI z).toInt64 = lI z := fun z hz => iI_l (by have := hz.1; omega) (by have := hz.2; omega)
  have h1 := q_mulb ha hx
  have h2 := q_mulb hc hy
  refine q_in u_Pa_turnedX (by rw [L_Pa_turnedX]; exact Nat.le_of_ble_eq_true rfl) ?_
  rw [L_Pa_turnedX]
  refine q_at o_Pa_turnedX [] 20 l_Pa_turnedX_0 ?_
  simp -implicitDefEqProofs only [s_go, s_nil, s_cons, q_ins, s_op, s_i, s_j, s_a, s_v, s_li, s_lj, s_la, s_liO, s_ljO, s_laO, q_get, q_p1, q_p2, s_n2i, s_n2r, s_n2l, s_n2n, q_pad, q_ar, s_ob, s_obO, q_nth, s_ri, s_riO, s_rb, s_rbO, s_rzO, s_rl, s_rlO, s_rq, s_rqO, s_ry, s_ryO, s_dn, s_tl, s_tn, s_ap, s_an, s_ci, s_cr, s_ni, s_n0, s_n1, q_ags, q_cat, List.contains_nil, List.contains_cons, Nat.reduceBEq, Bool.or_false, Bool.false_or, Bool.true_or, Bool.false_eq_true, ↓reduceIte, Nat.le_refl, Nat.zero_le, true_and, and_true, Nat.reduceLeDiff, Nat.reduceAdd, Nat.add_zero, Nat.zero_add, List.length_cons, List.length_nil, List.set_cons_zero, List.set_cons_succ, Nat.reduceLT, s_fi, s_fl, s_fo, s_fa, s_f0, s_f1, s_set, s_ss, lg_cmp_ge, lg_cmp_le, lg_cmp_gt, lg_cmp_lt, lg_cmp_eq, s_brT, s_brF, s_10, w_Pa_turnedX, r_Pa_turnedX, l_Pa_turnedX_0, f_5_60, f_5_66, kb_14, hP, r a ha, r c hc, r x hx, r y hy, lI_mul, lI_add, lI_shr14 (show -9223372036854775808 ≤ a * x + c * y by omega) (show a * x + c * y < 9223372036854775808 by omega), lI_i]
  exact hq
set_option maxRecDepth 100000 in
set_option maxHeartbeats 4000000 in
theorem c_Pa_turnedY {G : q_G} {l : Launch} {dd o cu n : Nat} {fl ch p q : Int32} {a b c d x y : Int} {h : q_H} {Q : q_P} (hP : h o = some (e_Pa cu fl ch p q (iI a) (iI b) (iI c) (iI d))) (hb : q_sm b) (hd : q_sm d) (hx : q_sm x) (hy : q_sm y) (hq : Q (some (.int (iI (TR b x d y)))) h n) : q_Call G l M_Pa_turnedY dd 0 0 [.ref o, .int (iI x), .int (iI y)] h n Q := by
  unfold e_Pa at hP
  have r : ∀ z, q_sm z → (iI z).toInt64 = lI z := fun z hz => iI_l (by have := hz.1; omega) (by have := hz.2; omega)
  have h1 := q_mulb hb hx
  have h2 := q_mulb hd hy
  refine q_in u_Pa_turnedY (by rw [L_Pa_turnedY]; exact Nat.le_of_ble_eq_true rfl) ?_
  rw [L_Pa_turnedY]
  refine q_at o_Pa_turnedY [] 20 l_Pa_turnedY_0 ?_
  simp -implicitDefEqProofs only [s_go, s_nil, s_cons, q_ins, s_op, s_i, s_j, s_a, s_v, s_li, s_lj, s_la, s_liO, s_ljO, s_laO, q_get, q_p1, q_p2, s_n2i, s_n2r, s_n2l, s_n2n, q_pad, q_ar, s_ob, s_obO, q_nth, s_ri, s_riO, s_rb, s_rbO, s_rzO, s_rl, s_rlO, s_rq, s_rqO, s_ry, s_ryO, s_dn, s_tl, s_tn, s_ap, s_an, s_ci, s_cr, s_ni, s_n0, s_n1, q_ags, q_cat, List.contains_nil, List.contains_cons, Nat.reduceBEq, Bool.or_false, Bool.false_or, Bool.true_or, Bool.false_eq_true, ↓reduceIte, Nat.le_refl, Nat.zero_le, true_and, and_true, Nat.reduceLeDiff, Nat.reduceAdd, Nat.add_zero, Nat.zero_add, List.length_cons, List.length_nil, List.set_cons_zero, List.set_cons_succ, Nat.reduceLT, s_fi, s_fl, s_fo, s_fa, s_f0, s_f1, s_set, s_ss, lg_cmp_ge, lg_cmp_le, lg_cmp_gt, lg_cmp_lt, lg_cmp_eq, s_brT, s_brF, s_10, w_Pa_turnedY, r_Pa_turnedY, l_Pa_turnedY_0, f_5_63, f_5_69, kb_14, hP, r b hb, r d hd, r x hx, r y hy, lI_mul, lI_add, lI_shr14 (show -9223372036854775808 ≤ b * x + d * y by omega) (show b * x + d * y < 9223372036854775808 by omega), lI_i]
  exact hq
/-- bit k of a number -/
abbrev BT (v k : Nat) : Prop := v / 2 ^ k % 2 = 1
theorem q_nand (a b : Nat) : nI a &&& nI b = nI (a &&& b) := by
  apply Int32.toBitVec_inj.mp
  show BitVec.ofNat 32 _ &&& BitVec.ofNat 32 _ = BitVec.ofNat 32 _
  rw [BitVec.ofNat_and]
theorem q_bit {v k : Nat} (hv : v < 65536) (hk : k < 16) : (nI v &&& nI (2 ^ k) = 0) ↔ ¬ BT v k := by
  have hp : 2 ^ k ≤ 2 ^ 15 := Nat.pow_le_pow_right (by omega) (by omega)
  have hb : v &&& 2 ^ k ≤ 2 ^ k := Nat.and_le_right
  rw [q_nand, show (0 : Int32) = nI 0 from rfl, nI_eq (by omega) (by omega)]
  constructor
  · intro h0 hq
    have h1 : (v &&& 2 ^ k).testBit k = true := by
      rw [Nat.testBit_and, Nat.testBit_two_pow_self, Nat.testBit_eq_decide_div_mod_eq]
      simp [hq]
    rw [h0] at h1
    simp at h1
  · intro hq
    apply Nat.eq_of_testBit_eq
    intro i
    rw [Nat.testBit_and, Nat.testBit_two_pow, Nat.zero_testBit]
    by_cases hi : k = i
    · subst hi
      rw [Nat.testBit_eq_decide_div_mod_eq]
      simp [hq]
    · simp [hi]
set_option maxRecDepth 100000 in
set_option maxHeartbeats 4000000 in
theorem c_Pa_has {G : q_G} {l : Launch} {dd o cu n : Nat} {fl k : Nat} {ch p q a b c d : Int32} {h : q_H} {Q : q_P} (hP : h o = some (e_Pa cu (nI fl) ch p q a b c d)) (hf : fl < 65536) (hk : k < 16) (q1 : BT fl k → Q (some (.int 1)) h n) (q0 : ¬ BT fl k → Q (some (.int 0)) h n) : q_Call G l M_Pa_has dd 0 0 [.ref o, .int (nI (2 ^ k))] h n Q := by
  unfold e_Pa at hP
  refine q_in u_Pa_has (by rw [L_Pa_has]; exact Nat.le_of_ble_eq_true rfl) ?_
  rw [L_Pa_has]
  refine q_at o_Pa_has [] 20 l_Pa_has_0 ?_
  simp -implicitDefEqProofs only [s_go, s_nil, s_cons, q_ins, s_op, s_i, s_j, s_a, s_v, s_li, s_lj, s_la, s_liO, s_ljO, s_laO, q_get, q_p1, q_p2, s_n2i, s_n2r, s_n2l, s_n2n, q_pad, q_ar, s_ob, s_obO, q_nth, s_ri, s_riO, s_rb, s_rbO, s_rzO, s_rl, s_rlO, s_rq, s_rqO, s_ry, s_ryO, s_dn, s_tl, s_tn, s_ap, s_an, s_ci, s_cr, s_ni, s_n0, s_n1, q_ags, q_cat, List.contains_nil, List.contains_cons, Nat.reduceBEq, Bool.or_false, Bool.false_or, Bool.true_or, Bool.false_eq_true, ↓reduceIte, Nat.le_refl, Nat.zero_le, true_and, and_true, Nat.reduceLeDiff, Nat.reduceAdd, Nat.add_zero, Nat.zero_add, List.length_cons, List.length_nil, List.set_cons_zero, List.set_cons_succ, Nat.reduceLT, s_fi, s_fl, s_fo, s_fa, s_f0, s_f1, s_set, s_ss, lg_cmp_ge, lg_cmp_le, lg_cmp_gt, lg_cmp_lt, lg_cmp_eq, s_brT, s_brF, s_10, w_Pa_has, r_Pa_has, l_Pa_has_0, l_Pa_has_13, l_Pa_has_14, f_5_20, kc_1, kc_0, hP, q_bit hf hk]
  exact ⟨fun c => q0 c, fun c => q1 (Decidable.not_not.mp c)⟩
def S8 (v : Nat) : Int := if 127 < v then (v : Int) - 256 else v
theorem q_s8 {v : Nat} (h : v < 256) : (nI v).toInt8.toInt32 = iI (S8 v) := by
  apply Int32.toInt_inj.mp
  rw [Int8.toInt_toInt32, Int32.toInt_toInt8, nI_toInt (by omega), iI_toInt (by unfold S8; split <;> omega) (by unfold S8; split <;> omega)]
  unfold S8
  split <;> simp only [Int.bmod_def] <;> omega
theorem q_s16' {v : Nat} (h : v < 65536) : (nI v).toInt16.toInt32 = iI (S16 v) := q_s16 h
/-- a part's number: of 16 bits or 8, with or without a sign -/
def NW (fl : Nat) : Nat := if BT fl 0 then 2 else 1
def NV (F : Nat → Nat) (fl p : Nat) : Int := if BT fl 0 then (if BT fl 1 then S16 (256 * F p + F (p + 1)) else ((256 * F p + F (p + 1) : Nat) : Int)) else (if BT fl 1 then S8 (F p) else (F p : Int))
set_option maxRecDepth 100000 in
set_option maxHeartbeats 4000000 in
theorem c_Pa_number {G : q_G} {l : Launch} {dd o cu f row m n sz p e fl : Nat} {ro ch p0 q0 a b c d : Int32} {g : Nat → Int32} {F : Nat → Nat} {h : q_H} {Q : q_P} (hP : h o = some (e_Pa cu (nI fl) ch p0 q0 a b c d)) (hf : fl < 65536) (hC : q_Cu h cu f p e ro) (hB : q_By h f row m g sz F) (he : e ≤ sz) (hpe : p ≤ e)
    (q1 : p + NW fl ≤ e → Q (some (.int (iI (NV F fl p)))) (q_set h cu (e_Cu f (p + NW fl) e ro)) n) (q2 : e < p + NW fl → Q (some (.int 0)) (q_set h cu (e_Cu f p e 1)) n) : q_Call G l M_Pa_number (dd + 1) 0 0 [.ref o] h n Q := by
  have hF := hB.2.2.2.2.2.2
  have hP' := hP
  unfold e_Pa at hP'
  have hcu : h cu = some (.inr (2, [.ref f, .int (nI p), .int (nI e), .int ro])) := hC
  have hoc : o ≠ cu := fun q => by rw [q, hcu] at hP'; cases hP'
  unfold NW at q1 q2
  unfold NV at q1
  refine q_in u_Pa_number (by rw [L_Pa_number]; exact Nat.le_of_ble_eq_true rfl) ?_
  rw [L_Pa_number]
  refine q_at o_Pa_number [] 20 l_Pa_number_0 ?_
  simp -implicitDefEqProofs only [s_go, s_nil, s_cons, q_ins, s_op, s_i, s_j, s_a, s_v, s_li, s_lj, s_la, s_liO, s_ljO, s_laO, q_get, q_p1, q_p2, s_n2i, s_n2r, s_n2l, s_n2n, q_pad, q_ar, s_ob, s_obO, q_nth, s_ri, s_riO, s_rb, s_rbO, s_rzO, s_rl, s_rlO, s_rq, s_rqO, s_ry, s_ryO, s_dn, s_tl, s_tn, s_ap, s_an, s_ci, s_cr, s_ni, s_n0, s_n1, q_ags, q_cat, List.contains_nil, List.contains_cons, Nat.reduceBEq, Bool.or_false, Bool.false_or, Bool.true_or, Bool.false_eq_true, ↓reduceIte, Nat.le_refl, Nat.zero_le, true_and, and_true, Nat.reduceLeDiff, Nat.reduceAdd, Nat.add_zero, Nat.zero_add, List.length_cons, List.length_nil, List.set_cons_zero, List.set_cons_succ, Nat.reduceLT, s_fi, s_fl, s_fo, s_fa, s_f0, s_f1, s_set, s_ss, lg_cmp_ge, lg_cmp_le, lg_cmp_gt, lg_cmp_lt, lg_cmp_eq, s_brT, s_brF, s_10, w_Pa_number, r_Pa_number, l_Pa_number_0, l_Pa_number_29, l_Pa_number_30, l_Pa_number_31, l_Pa_number_52, l_Pa_number_53, kc_1, ml_5_53, w_Pa_has, f_5_14, ml_5_24, w_Cu_u16, kc_2, ml_5_57, w_Cu_u8, hP', hcu]
  refine q_c0 (Nat.le_refl _) (Nat.le_refl _) ?_
  refine c_Pa_has (k := 0) hP hf (by omega) (fun b0 => ?_) (fun b0 => ?_)
  · simp -implicitDefEqProofs only [s_go, s_nil, s_cons, q_ins, s_op, s_i, s_j, s_a, s_v, s_li, s_lj, s_la, s_liO, s_ljO, s_laO, q_get, q_p1, q_p2, s_n2i, s_n2r, s_n2l, s_n2n, q_pad, q_ar, s_ob, s_obO, q_nth, s_ri, s_riO, s_rb, s_rbO, s_rzO, s_rl, s_rlO, s_rq, s_rqO, s_ry, s_ryO, s_dn, s_tl, s_tn, s_ap, s_an, s_ci, s_cr, s_ni, s_n0, s_n1, q_ags, q_cat, List.contains_nil, List.contains_cons, Nat.reduceBEq, Bool.or_false, Bool.false_or, Bool.true_or, Bool.false_eq_true, ↓reduceIte, Nat.le_refl, Nat.zero_le, true_and, and_true, Nat.reduceLeDiff, Nat.reduceAdd, Nat.add_zero, Nat.zero_add, List.length_cons, List.length_nil, List.set_cons_zero, List.set_cons_succ, Nat.reduceLT, s_fi, s_fl, s_fo, s_fa, s_f0, s_f1, s_set, s_ss, lg_cmp_ge, lg_cmp_le, lg_cmp_gt, lg_cmp_lt, lg_cmp_eq, s_brT, s_brF, s_10, w_Pa_number, r_Pa_number, l_Pa_number_0, l_Pa_number_29, l_Pa_number_30, l_Pa_number_31, l_Pa_number_52, l_Pa_number_53, kc_1, ml_5_53, w_Pa_has, f_5_14, ml_5_24, w_Cu_u16, kc_2, ml_5_57, w_Cu_u8, hP', hcu]
    refine q_c0 (Nat.le_refl _) (Nat.le_refl _) ?_
    rw [if_pos b0] at q1 q2
    rw [if_pos b0] at q1
    refine c_Cu_u16 hC hB he hpe (fun hl => ?_) (fun hl => ?_)
    · have q1 := q1 hl
      simp -implicitDefEqProofs only [s_go, s_nil, s_cons, q_ins, s_op, s_i, s_j, s_a, s_v, s_li, s_lj, s_la, s_liO, s_ljO, s_laO, q_get, q_p1, q_p2, s_n2i, s_n2r, s_n2l, s_n2n, q_pad, q_ar, s_ob, s_obO, q_nth, s_ri, s_riO, s_rb, s_rbO, s_rzO, s_rl, s_rlO, s_rq, s_rqO, s_ry, s_ryO, s_dn, s_tl, s_tn, s_ap, s_an, s_ci, s_cr, s_ni, s_n0, s_n1, q_ags, q_cat, List.contains_nil, List.contains_cons, Nat.reduceBEq, Bool.or_false, Bool.false_or, Bool.true_or, Bool.false_eq_true, ↓reduceIte, Nat.le_refl, Nat.zero_le, true_and, and_true, Nat.reduceLeDiff, Nat.reduceAdd, Nat.add_zero, Nat.zero_add, List.length_cons, List.length_nil, List.set_cons_zero, List.set_cons_succ, Nat.reduceLT, s_fi, s_fl, s_fo, s_fa, s_f0, s_f1, s_set, s_ss, lg_cmp_ge, lg_cmp_le, lg_cmp_gt, lg_cmp_lt, lg_cmp_eq, s_brT, s_brF, s_10, w_Pa_number, r_Pa_number, l_Pa_number_0, l_Pa_number_29, l_Pa_number_30, l_Pa_number_31, l_Pa_number_52, l_Pa_number_53, kc_1, ml_5_53, w_Pa_has, f_5_14, ml_5_24, w_Cu_u16, kc_2, ml_5_57, w_Cu_u8, hP', hcu, s_ne _ _ hoc]
      refine q_c0 (Nat.le_refl _) (Nat.le_refl _) ?_
      refine c_Pa_has (k := 1) (by rw [s_ne _ _ hoc]; exact hP) hf (by omega) (fun b1 => ?_) (fun b1 => ?_)
      · rw [if_pos b1] at q1
        simp -implicitDefEqProofs only [s_go, s_nil, s_cons, q_ins, s_op, s_i, s_j, s_a, s_v, s_li, s_lj, s_la, s_liO, s_ljO, s_laO, q_get, q_p1, q_p2, s_n2i, s_n2r, s_n2l, s_n2n, q_pad, q_ar, s_ob, s_obO, q_nth, s_ri, s_riO, s_rb, s_rbO, s_rzO, s_rl, s_rlO, s_rq, s_rqO, s_ry, s_ryO, s_dn, s_tl, s_tn, s_ap, s_an, s_ci, s_cr, s_ni, s_n0, s_n1, q_ags, q_cat, List.contains_nil, List.contains_cons, Nat.reduceBEq, Bool.or_false, Bool.false_or, Bool.true_or, Bool.false_eq_true, ↓reduceIte, Nat.le_refl, Nat.zero_le, true_and, and_true, Nat.reduceLeDiff, Nat.reduceAdd, Nat.add_zero, Nat.zero_add, List.length_cons, List.length_nil, List.set_cons_zero, List.set_cons_succ, Nat.reduceLT, s_fi, s_fl, s_fo, s_fa, s_f0, s_f1, s_set, s_ss, lg_cmp_ge, lg_cmp_le, lg_cmp_gt, lg_cmp_lt, lg_cmp_eq, s_brT, s_brF, s_10, w_Pa_number, r_Pa_number, l_Pa_number_0, l_Pa_number_29, l_Pa_number_30, l_Pa_number_31, l_Pa_number_52, l_Pa_number_53, kc_1, ml_5_53, w_Pa_has, f_5_14, ml_5_24, w_Cu_u16, kc_2, ml_5_57, w_Cu_u8, q_s16' (show 256 * F p + F (p + 1) < 65536 by have := hF p; have := hF (p + 1); omega)]
        exact q1
      · rw [if_neg b1] at q1
        simp -implicitDefEqProofs only [s_go, s_nil, s_cons, q_ins, s_op, s_i, s_j, s_a, s_v, s_li, s_lj, s_la, s_liO, s_ljO, s_laO, q_get, q_p1, q_p2, s_n2i, s_n2r, s_n2l, s_n2n, q_pad, q_ar, s_ob, s_obO, q_nth, s_ri, s_riO, s_rb, s_rbO, s_rzO, s_rl, s_rlO, s_rq, s_rqO, s_ry, s_ryO, s_dn, s_tl, s_tn, s_ap, s_an, s_ci, s_cr, s_ni, s_n0, s_n1, q_ags, q_cat, List.contains_nil, List.contains_cons, Nat.reduceBEq, Bool.or_false, Bool.false_or, Bool.true_or, Bool.false_eq_true, ↓reduceIte, Nat.le_refl, Nat.zero_le, true_and, and_true, Nat.reduceLeDiff, Nat.reduceAdd, Nat.add_zero, Nat.zero_add, List.length_cons, List.length_nil, List.set_cons_zero, List.set_cons_succ, Nat.reduceLT, s_fi, s_fl, s_fo, s_fa, s_f0, s_f1, s_set, s_ss, lg_cmp_ge, lg_cmp_le, lg_cmp_gt, lg_cmp_lt, lg_cmp_eq, s_brT, s_brF, s_10, w_Pa_number, r_Pa_number, l_Pa_number_0, l_Pa_number_29, l_Pa_number_30, l_Pa_number_31, l_Pa_number_52, l_Pa_number_53, kc_1, ml_5_53, w_Pa_has, f_5_14, ml_5_24, w_Cu_u16, kc_2, ml_5_57, w_Cu_u8]
        exact q1
    · have q2 := q2 hl
      simp -implicitDefEqProofs only [s_go, s_nil, s_cons, q_ins, s_op, s_i, s_j, s_a, s_v, s_li, s_lj, s_la, s_liO, s_ljO, s_laO, q_get, q_p1, q_p2, s_n2i, s_n2r, s_n2l, s_n2n, q_pad, q_ar, s_ob, s_obO, q_nth, s_ri, s_riO, s_rb, s_rbO, s_rzO, s_rl, s_rlO, s_rq, s_rqO, s_ry, s_ryO, s_dn, s_tl, s_tn, s_ap, s_an, s_ci, s_cr, s_ni, s_n0, s_n1, q_ags, q_cat, List.contains_nil, List.contains_cons, Nat.reduceBEq, Bool.or_false, Bool.false_or, Bool.true_or, Bool.false_eq_true, ↓reduceIte, Nat.le_refl, Nat.zero_le, true_and, and_true, Nat.reduceLeDiff, Nat.reduceAdd, Nat.add_zero, Nat.zero_add, List.length_cons, List.length_nil, List.set_cons_zero, List.set_cons_succ, Nat.reduceLT, s_fi, s_fl, s_fo, s_fa, s_f0, s_f1, s_set, s_ss, lg_cmp_ge, lg_cmp_le, lg_cmp_gt, lg_cmp_lt, lg_cmp_eq, s_brT, s_brF, s_10, w_Pa_number, r_Pa_number, l_Pa_number_0, l_Pa_number_29, l_Pa_number_30, l_Pa_number_31, l_Pa_number_52, l_Pa_number_53, kc_1, ml_5_53, w_Pa_has, f_5_14, ml_5_24, w_Cu_u16, kc_2, ml_5_57, w_Cu_u8, hP', hcu, s_ne _ _ hoc]
      refine q_c0 (Nat.le_refl _) (Nat.le_refl _) ?_
      refine c_Pa_has (k := 1) (by rw [s_ne _ _ hoc]; exact hP) hf (by omega) (fun b1 => ?_) (fun b1 => ?_)
      · simp -implicitDefEqProofs only [s_go, s_nil, s_cons, q_ins, s_op, s_i, s_j, s_a, s_v, s_li, s_lj, s_la, s_liO, s_ljO, s_laO, q_get, q_p1, q_p2, s_n2i, s_n2r, s_n2l, s_n2n, q_pad, q_ar, s_ob, s_obO, q_nth, s_ri, s_riO, s_rb, s_rbO, s_rzO, s_rl, s_rlO, s_rq, s_rqO, s_ry, s_ryO, s_dn, s_tl, s_tn, s_ap, s_an, s_ci, s_cr, s_ni, s_n0, s_n1, q_ags, q_cat, List.contains_nil, List.contains_cons, Nat.reduceBEq, Bool.or_false, Bool.false_or, Bool.true_or, Bool.false_eq_true, ↓reduceIte, Nat.le_refl, Nat.zero_le, true_and, and_true, Nat.reduceLeDiff, Nat.reduceAdd, Nat.add_zero, Nat.zero_add, List.length_cons, List.length_nil, List.set_cons_zero, List.set_cons_succ, Nat.reduceLT, s_fi, s_fl, s_fo, s_fa, s_f0, s_f1, s_set, s_ss, lg_cmp_ge, lg_cmp_le, lg_cmp_gt, lg_cmp_lt, lg_cmp_eq, s_brT, s_brF, s_10, w_Pa_number, r_Pa_number, l_Pa_number_0, l_Pa_number_29, l_Pa_number_30, l_Pa_number_31, l_Pa_number_52, l_Pa_number_53, kc_1, ml_5_53, w_Pa_has, f_5_14, ml_5_24, w_Cu_u16, kc_2, ml_5_57, w_Cu_u8, show (0 : Int32).toInt16.toInt32 = 0 from rfl]
        exact q2
      · simp -implicitDefEqProofs only [s_go, s_nil, s_cons, q_ins, s_op, s_i, s_j, s_a, s_v, s_li, s_lj, s_la, s_liO, s_ljO, s_laO, q_get, q_p1, q_p2, s_n2i, s_n2r, s_n2l, s_n2n, q_pad, q_ar, s_ob, s_obO, q_nth, s_ri, s_riO, s_rb, s_rbO, s_rzO, s_rl, s_rlO, s_rq, s_rqO, s_ry, s_ryO, s_dn, s_tl, s_tn, s_ap, s_an, s_ci, s_cr, s_ni, s_n0, s_n1, q_ags, q_cat, List.contains_nil, List.contains_cons, Nat.reduceBEq, Bool.or_false, Bool.false_or, Bool.true_or, Bool.false_eq_true, ↓reduceIte, Nat.le_refl, Nat.zero_le, true_and, and_true, Nat.reduceLeDiff, Nat.reduceAdd, Nat.add_zero, Nat.zero_add, List.length_cons, List.length_nil, List.set_cons_zero, List.set_cons_succ, Nat.reduceLT, s_fi, s_fl, s_fo, s_fa, s_f0, s_f1, s_set, s_ss, lg_cmp_ge, lg_cmp_le, lg_cmp_gt, lg_cmp_lt, lg_cmp_eq, s_brT, s_brF, s_10, w_Pa_number, r_Pa_number, l_Pa_number_0, l_Pa_number_29, l_Pa_number_30, l_Pa_number_31, l_Pa_number_52, l_Pa_number_53, kc_1, ml_5_53, w_Pa_has, f_5_14, ml_5_24, w_Cu_u16, kc_2, ml_5_57, w_Cu_u8]
        exact q2
  · simp -implicitDefEqProofs only [s_go, s_nil, s_cons, q_ins, s_op, s_i, s_j, s_a, s_v, s_li, s_lj, s_la, s_liO, s_ljO, s_laO, q_get, q_p1, q_p2, s_n2i, s_n2r, s_n2l, s_n2n, q_pad, q_ar, s_ob, s_obO, q_nth, s_ri, s_riO, s_rb, s_rbO, s_rzO, s_rl, s_rlO, s_rq, s_rqO, s_ry, s_ryO, s_dn, s_tl, s_tn, s_ap, s_an, s_ci, s_cr, s_ni, s_n0, s_n1, q_ags, q_cat, List.contains_nil, List.contains_cons, Nat.reduceBEq, Bool.or_false, Bool.false_or, Bool.true_or, Bool.false_eq_true, ↓reduceIte, Nat.le_refl, Nat.zero_le, true_and, and_true, Nat.reduceLeDiff, Nat.reduceAdd, Nat.add_zero, Nat.zero_add, List.length_cons, List.length_nil, List.set_cons_zero, List.set_cons_succ, Nat.reduceLT, s_fi, s_fl, s_fo, s_fa, s_f0, s_f1, s_set, s_ss, lg_cmp_ge, lg_cmp_le, lg_cmp_gt, lg_cmp_lt, lg_cmp_eq, s_brT, s_brF, s_10, w_Pa_number, r_Pa_number, l_Pa_number_0, l_Pa_number_29, l_Pa_number_30, l_Pa_number_31, l_Pa_number_52, l_Pa_number_53, kc_1, ml_5_53, w_Pa_has, f_5_14, ml_5_24, w_Cu_u16, kc_2, ml_5_57, w_Cu_u8, hP', hcu]
    refine q_c0 (Nat.le_refl _) (Nat.le_refl _) ?_
    rw [if_neg b0] at q1 q2
    rw [if_neg b0] at q1
    refine c_Cu_u8 hC hB he hpe (fun hl => ?_) (fun hl => ?_)
    · have q1 := q1 hl
      simp -implicitDefEqProofs only [s_go, s_nil, s_cons, q_ins, s_op, s_i, s_j, s_a, s_v, s_li, s_lj, s_la, s_liO, s_ljO, s_laO, q_get, q_p1, q_p2, s_n2i, s_n2r, s_n2l, s_n2n, q_pad, q_ar, s_ob, s_obO, q_nth, s_ri, s_riO, s_rb, s_rbO, s_rzO, s_rl, s_rlO, s_rq, s_rqO, s_ry, s_ryO, s_dn, s_tl, s_tn, s_ap, s_an, s_ci, s_cr, s_ni, s_n0, s_n1, q_ags, q_cat, List.contains_nil, List.contains_cons, Nat.reduceBEq, Bool.or_false, Bool.false_or, Bool.true_or, Bool.false_eq_true, ↓reduceIte, Nat.le_refl, Nat.zero_le, true_and, and_true, Nat.reduceLeDiff, Nat.reduceAdd, Nat.add_zero, Nat.zero_add, List.length_cons, List.length_nil, List.set_cons_zero, List.set_cons_succ, Nat.reduceLT, s_fi, s_fl, s_fo, s_fa, s_f0, s_f1, s_set, s_ss, lg_cmp_ge, lg_cmp_le, lg_cmp_gt, lg_cmp_lt, lg_cmp_eq, s_brT, s_brF, s_10, w_Pa_number, r_Pa_number, l_Pa_number_0, l_Pa_number_29, l_Pa_number_30, l_Pa_number_31, l_Pa_number_52, l_Pa_number_53, kc_1, ml_5_53, w_Pa_has, f_5_14, ml_5_24, w_Cu_u16, kc_2, ml_5_57, w_Cu_u8, hP', hcu, s_ne _ _ hoc]
      refine q_c0 (Nat.le_refl _) (Nat.le_refl _) ?_
      refine c_Pa_has (k := 1) (by rw [s_ne _ _ hoc]; exact hP) hf (by omega) (fun b1 => ?_) (fun b1 => ?_)
      · rw [if_pos b1] at q1
        simp -implicitDefEqProofs only [s_go, s_nil, s_cons, q_ins, s_op, s_i, s_j, s_a, s_v, s_li, s_lj, s_la, s_liO, s_ljO, s_laO, q_get, q_p1, q_p2, s_n2i, s_n2r, s_n2l, s_n2n, q_pad, q_ar, s_ob, s_obO, q_nth, s_ri, s_riO, s_rb, s_rbO, s_rzO, s_rl, s_rlO, s_rq, s_rqO, s_ry, s_ryO, s_dn, s_tl, s_tn, s_ap, s_an, s_ci, s_cr, s_ni, s_n0, s_n1, q_ags, q_cat, List.contains_nil, List.contains_cons, Nat.reduceBEq, Bool.or_false, Bool.false_or, Bool.true_or, Bool.false_eq_true, ↓reduceIte, Nat.le_refl, Nat.zero_le, true_and, and_true, Nat.reduceLeDiff, Nat.reduceAdd, Nat.add_zero, Nat.zero_add, List.length_cons, List.length_nil, List.set_cons_zero, List.set_cons_succ, Nat.reduceLT, s_fi, s_fl, s_fo, s_fa, s_f0, s_f1, s_set, s_ss, lg_cmp_ge, lg_cmp_le, lg_cmp_gt, lg_cmp_lt, lg_cmp_eq, s_brT, s_brF, s_10, w_Pa_number, r_Pa_number, l_Pa_number_0, l_Pa_number_29, l_Pa_number_30, l_Pa_number_31, l_Pa_number_52, l_Pa_number_53, kc_1, ml_5_53, w_Pa_has, f_5_14, ml_5_24, w_Cu_u16, kc_2, ml_5_57, w_Cu_u8, q_s8 (hF p)]
        exact q1
      · rw [if_neg b1] at q1
        simp -implicitDefEqProofs only [s_go, s_nil, s_cons, q_ins, s_op, s_i, s_j, s_a, s_v, s_li, s_lj, s_la, s_liO, s_ljO, s_laO, q_get, q_p1, q_p2, s_n2i, s_n2r, s_n2l, s_n2n, q_pad, q_ar, s_ob, s_obO, q_nth, s_ri, s_riO, s_rb, s_rbO, s_rzO, s_rl, s_rlO, s_rq, s_rqO, s_ry, s_ryO, s_dn, s_tl, s_tn, s_ap, s_an, s_ci, s_cr, s_ni, s_n0, s_n1, q_ags, q_cat, List.contains_nil, List.contains_cons, Nat.reduceBEq, Bool.or_false, Bool.false_or, Bool.true_or, Bool.false_eq_true, ↓reduceIte, Nat.le_refl, Nat.zero_le, true_and, and_true, Nat.reduceLeDiff, Nat.reduceAdd, Nat.add_zero, Nat.zero_add, List.length_cons, List.length_nil, List.set_cons_zero, List.set_cons_succ, Nat.reduceLT, s_fi, s_fl, s_fo, s_fa, s_f0, s_f1, s_set, s_ss, lg_cmp_ge, lg_cmp_le, lg_cmp_gt, lg_cmp_lt, lg_cmp_eq, s_brT, s_brF, s_10, w_Pa_number, r_Pa_number, l_Pa_number_0, l_Pa_number_29, l_Pa_number_30, l_Pa_number_31, l_Pa_number_52, l_Pa_number_53, kc_1, ml_5_53, w_Pa_has, f_5_14, ml_5_24, w_Cu_u16, kc_2, ml_5_57, w_Cu_u8]
        exact q1
    · have q2 := q2 (by omega)
      simp -implicitDefEqProofs only [s_go, s_nil, s_cons, q_ins, s_op, s_i, s_j, s_a, s_v, s_li, s_lj, s_la, s_liO, s_ljO, s_laO, q_get, q_p1, q_p2, s_n2i, s_n2r, s_n2l, s_n2n, q_pad, q_ar, s_ob, s_obO, q_nth, s_ri, s_riO, s_rb, s_rbO, s_rzO, s_rl, s_rlO, s_rq, s_rqO, s_ry, s_ryO, s_dn, s_tl, s_tn, s_ap, s_an, s_ci, s_cr, s_ni, s_n0, s_n1, q_ags, q_cat, List.contains_nil, List.contains_cons, Nat.reduceBEq, Bool.or_false, Bool.false_or, Bool.true_or, Bool.false_eq_true, ↓reduceIte, Nat.le_refl, Nat.zero_le, true_and, and_true, Nat.reduceLeDiff, Nat.reduceAdd, Nat.add_zero, Nat.zero_add, List.length_cons, List.length_nil, List.set_cons_zero, List.set_cons_succ, Nat.reduceLT, s_fi, s_fl, s_fo, s_fa, s_f0, s_f1, s_set, s_ss, lg_cmp_ge, lg_cmp_le, lg_cmp_gt, lg_cmp_lt, lg_cmp_eq, s_brT, s_brF, s_10, w_Pa_number, r_Pa_number, l_Pa_number_0, l_Pa_number_29, l_Pa_number_30, l_Pa_number_31, l_Pa_number_52, l_Pa_number_53, kc_1, ml_5_53, w_Pa_has, f_5_14, ml_5_24, w_Cu_u16, kc_2, ml_5_57, w_Cu_u8, hP', hcu, s_ne _ _ hoc]
      refine q_c0 (Nat.le_refl _) (Nat.le_refl _) ?_
      refine c_Pa_has (k := 1) (by rw [s_ne _ _ hoc]; exact hP) hf (by omega) (fun b1 => ?_) (fun b1 => ?_)
      · simp -implicitDefEqProofs only [s_go, s_nil, s_cons, q_ins, s_op, s_i, s_j, s_a, s_v, s_li, s_lj, s_la, s_liO, s_ljO, s_laO, q_get, q_p1, q_p2, s_n2i, s_n2r, s_n2l, s_n2n, q_pad, q_ar, s_ob, s_obO, q_nth, s_ri, s_riO, s_rb, s_rbO, s_rzO, s_rl, s_rlO, s_rq, s_rqO, s_ry, s_ryO, s_dn, s_tl, s_tn, s_ap, s_an, s_ci, s_cr, s_ni, s_n0, s_n1, q_ags, q_cat, List.contains_nil, List.contains_cons, Nat.reduceBEq, Bool.or_false, Bool.false_or, Bool.true_or, Bool.false_eq_true, ↓reduceIte, Nat.le_refl, Nat.zero_le, true_and, and_true, Nat.reduceLeDiff, Nat.reduceAdd, Nat.add_zero, Nat.zero_add, List.length_cons, List.length_nil, List.set_cons_zero, List.set_cons_succ, Nat.reduceLT, s_fi, s_fl, s_fo, s_fa, s_f0, s_f1, s_set, s_ss, lg_cmp_ge, lg_cmp_le, lg_cmp_gt, lg_cmp_lt, lg_cmp_eq, s_brT, s_brF, s_10, w_Pa_number, r_Pa_number, l_Pa_number_0, l_Pa_number_29, l_Pa_number_30, l_Pa_number_31, l_Pa_number_52, l_Pa_number_53, kc_1, ml_5_53, w_Pa_has, f_5_14, ml_5_24, w_Cu_u16, kc_2, ml_5_57, w_Cu_u8, show (0 : Int32).toInt8.toInt32 = 0 from rfl]
        exact q2
      · simp -implicitDefEqProofs only [s_go, s_nil, s_cons, q_ins, s_op, s_i, s_j, s_a, s_v, s_li, s_lj, s_la, s_liO, s_ljO, s_laO, q_get, q_p1, q_p2, s_n2i, s_n2r, s_n2l, s_n2n, q_pad, q_ar, s_ob, s_obO, q_nth, s_ri, s_riO, s_rb, s_rbO, s_rzO, s_rl, s_rlO, s_rq, s_rqO, s_ry, s_ryO, s_dn, s_tl, s_tn, s_ap, s_an, s_ci, s_cr, s_ni, s_n0, s_n1, q_ags, q_cat, List.contains_nil, List.contains_cons, Nat.reduceBEq, Bool.or_false, Bool.false_or, Bool.true_or, Bool.false_eq_true, ↓reduceIte, Nat.le_refl, Nat.zero_le, true_and, and_true, Nat.reduceLeDiff, Nat.reduceAdd, Nat.add_zero, Nat.zero_add, List.length_cons, List.length_nil, List.set_cons_zero, List.set_cons_succ, Nat.reduceLT, s_fi, s_fl, s_fo, s_fa, s_f0, s_f1, s_set, s_ss, lg_cmp_ge, lg_cmp_le, lg_cmp_gt, lg_cmp_lt, lg_cmp_eq, s_brT, s_brF, s_10, w_Pa_number, r_Pa_number, l_Pa_number_0, l_Pa_number_29, l_Pa_number_30, l_Pa_number_31, l_Pa_number_52, l_Pa_number_53, kc_1, ml_5_53, w_Pa_has, f_5_14, ml_5_24, w_Cu_u16, kc_2, ml_5_57, w_Cu_u8]
        exact q2
end
section
/-! Part.readFactors, isRead -/
abbrev w2 (F : Nat → Nat) (p : Nat) : Nat := 256 * F p + F (p + 1)
def NF (fl : Nat) : Nat := if BT fl 3 then 1 else if BT fl 6 then 2 else if BT fl 7 then 4 else 0
def FA (F : Nat → Nat) (fl p : Nat) : Int := if BT fl 3 then S16 (w2 F p) else if BT fl 6 then S16 (w2 F p) else if BT fl 7 then S16 (w2 F p) else 16384
def FB (F : Nat → Nat) (fl p : Nat) : Int := if BT fl 3 then 0 else if BT fl 6 then 0 else if BT fl 7 then S16 (w2 F (p + 2)) else 0
def FC (F : Nat → Nat) (fl p : Nat) : Int := if BT fl 3 then 0 else if BT fl 6 then 0 else if BT fl 7 then S16 (w2 F (p + 4)) else 0
def FD (F : Nat → Nat) (fl p : Nat) : Int := if BT fl 3 then S16 (w2 F p) else if BT fl 6 then S16 (w2 F (p + 2)) else if BT fl 7 then S16 (w2 F (p + 6)) else 16384
theorem w2_lt {F : Nat → Nat} (hF : ∀ j, F j < 256) (p : Nat) : w2 F p < 65536 := by
  have := hF p; have := hF (p + 1); show 256 * F p + F (p + 1) < 65536; omega
theorem S16_sm {v : Nat} (h : v < 65536) : q_sm (S16 v) := by unfold q_sm S16; split <;> omega
theorem q_cuP {h : q_H} {o cu f p e : Nat} {ro : Int32} {x : q_E} (hC : q_Cu h cu f p e ro) (ho : h o = some x) (hx : ∀ y, x ≠ .inr (2, y)) : o ≠ cu := by
  intro q
  subst q
  unfold q_Cu at hC
  rw [ho] at hC
  exact hx _ (Option.some.inj hC)
theorem e_Pa_nc {cu : Nat} {fl ch p q a b c d : Int32} : ∀ y, e_Pa cu fl ch p q a b c d ≠ .inr (2, y) := by
  intro y h
  unfold e_Pa at h
  cases h
/-- only the cells o and u may have changed -/
def q_2 (h h' : q_H) (o u : Nat) : Prop := ∀ b, b ≠ o → b ≠ u → h' b = h b
theorem k16384 : (16384 : Int32) = iI 16384 := rfl
theorem k0i : (0 : Int32) = iI 0 := rfl
theorem s_hs {h : q_H} {a : Nat} {e : q_E} : q_set h a e a = some e := s_set h a e
set_option maxRecDepth 100000 in
set_option maxHeartbeats 4000000 in
theorem c_Pa_readFactors {G : q_G} {l : Launch} {dd o cu f row m n sz p e fl : Nat} {ro ch p0 q0 a b c d : Int32} {g : Nat → Int32} {F : Nat → Nat} {h : q_H} {Q : q_P} (hP : h o = some (e_Pa cu (nI fl) ch p0 q0 a b c d)) (hf : fl < 65536) (hC : q_Cu h cu f p e ro) (hB : q_By h f row m g sz F) (he : e ≤ sz) (hpe : p ≤ e)
    (q1 : p + 2 * NF fl ≤ e → ∀ h', q_2 h h' o cu → h' o = some (e_Pa cu (nI fl) ch p0 q0 (iI (FA F fl p)) (iI (FB F fl p)) (iI (FC F fl p)) (iI (FD F fl p))) → q_Cu h' cu f (p + 2 * NF fl) e ro → Q none h' n)
    (q2 : e < p + 2 * NF fl → ∀ h' a b c d p', q_2 h h' o cu → h' o = some (e_Pa cu (nI fl) ch p0 q0 a b c d) → q_Cu h' cu f p' e 1 → Q none h' n) : q_Call G l M_Pa_readFactors (dd + 1) 0 0 [.ref o] h n Q := by
  have hF := hB.2.2.2.2.2.2
  have hoc : o ≠ cu := q_cuP hC hP e_Pa_nc
  have hof : f ≠ o := fun q => by have := hB.1; rw [q, hP] at this; cases this
  have hor : row ≠ o := fun q => by have := hB.2.1; rw [q, hP] at this; cases this
  have hcf : f ≠ cu := fun q => by have := hB.1; rw [q] at this; unfold q_Cu at hC; rw [hC] at this; cases this
  have hcr : row ≠ cu := fun q => by have := hB.2.1; rw [q] at this; unfold q_Cu at hC; rw [hC] at this; cases this
  have hP' := hP
  unfold e_Pa at hP'
  have hcu : h cu = some (.inr (2, [.ref f, .int (nI p), .int (nI e), .int ro])) := hC
  have gB : ∀ h', q_2 h h' o cu → q_By h' f row m g sz F := fun h' hh => ⟨(hh f hof hcf).trans hB.1, (hh row hor hcr).trans hB.2.1, hB.2.2⟩
  have j2 : ∀ {h1 h2 : q_H} {x : q_E}, q_2 h h1 o cu → h2 = q_set h1 cu x → q_2 h h2 o cu := fun hh e b b1 b2 => by subst e; rw [s_ne _ _ b2]; exact hh b b1 b2
  have j1 : ∀ {h1 h2 : q_H} {x : q_E}, q_2 h h1 o cu → h2 = q_set h1 o x → q_2 h h2 o cu := fun hh e b b1 b2 => by subst e; rw [s_ne _ _ b1]; exact hh b b1 b2
  have r0 : q_2 h h o cu := fun b _ _ => rfl
  unfold NF at q1 q2
  unfold FA FB FC FD at q1
  refine q_in u_Pa_readFactors (by rw [L_Pa_readFactors]; exact Nat.le_of_ble_eq_true rfl) ?_
  rw [L_Pa_readFactors]
  refine q_at o_Pa_readFactors [] 20 l_Pa_readFactors_0 ?_
  simp -implicitDefEqProofs only [s_go, s_nil, s_cons, q_ins, s_op, s_i, s_j, s_a, s_v, s_li, s_lj, s_la, s_liO, s_ljO, s_laO, q_get, q_p1, q_p2, s_n2i, s_n2r, s_n2l, s_n2n, q_pad, q_ar, s_ob, s_obO, q_nth, s_ri, s_riO, s_rb, s_rbO, s_rzO, s_rl, s_rlO, s_rq, s_rqO, s_ry, s_ryO, s_dn, s_tl, s_tn, s_ap, s_an, s_ci, s_cr, s_ni, s_n0, s_n1, q_ags, q_cat, List.contains_nil, List.contains_cons, Nat.reduceBEq, Bool.or_false, Bool.false_or, Bool.true_or, Bool.false_eq_true, ↓reduceIte, Nat.le_refl, Nat.zero_le, true_and, and_true, Nat.reduceLeDiff, Nat.reduceAdd, Nat.add_zero, Nat.zero_add, List.length_cons, List.length_nil, List.set_cons_zero, List.set_cons_succ, Nat.reduceLT, s_fi, s_fl, s_fo, s_fa, s_f0, s_f1, s_set, s_ss, lg_cmp_ge, lg_cmp_le, lg_cmp_gt, lg_cmp_lt, lg_cmp_eq, s_brT, s_brF, s_10, w_Pa_readFactors, r_Pa_readFactors, l_Pa_readFactors_0, l_Pa_readFactors_56, l_Pa_readFactors_92, l_Pa_readFactors_150, ks_16384, f_5_60, ty_5_5, kc_0, f_5_63, ty_5_6, f_5_66, ty_5_7, f_5_69, ty_5_8, kb_8, ml_5_53, w_Pa_has, f_5_14, ml_5_24, w_Cu_u16, kb_64, ks_128, hP', hcu]
  refine q_c0 (Nat.le_refl _) (Nat.le_refl _) ?_
  generalize hh1 : q_set h o _ = h1
  have t1 : q_2 h h1 o cu := j1 r0 hh1.symm
  have P1 : h1 o = some (e_Pa cu (nI fl) ch p0 q0 (iI 16384) (iI 0) (iI 0) (iI 16384)) := by rw [← hh1]; exact s_set _ _ _
  have C1 : q_Cu h1 cu f p e ro := by unfold q_Cu; rw [← hh1, s_ne _ _ hoc.symm]; exact hcu
  have P1' := P1
  unfold e_Pa at P1'
  have C1' : h1 cu = some (.inr (2, [.ref f, .int (nI p), .int (nI e), .int ro])) := C1
  refine c_Pa_has (k := 3) P1 hf (by omega) (fun b3 => ?_) (fun b3 => ?_)
  · rw [if_pos b3] at q1 q2
    simp -implicitDefEqProofs only [s_go, s_nil, s_cons, q_ins, s_op, s_i, s_j, s_a, s_v, s_li, s_lj, s_la, s_liO, s_ljO, s_laO, q_get, q_p1, q_p2, s_n2i, s_n2r, s_n2l, s_n2n, q_pad, q_ar, s_ob, s_obO, q_nth, s_ri, s_riO, s_rb, s_rbO, s_rzO, s_rl, s_rlO, s_rq, s_rqO, s_ry, s_ryO, s_dn, s_tl, s_tn, s_ap, s_an, s_ci, s_cr, s_ni, s_n0, s_n1, q_ags, q_cat, List.contains_nil, List.contains_cons, Nat.reduceBEq, Bool.or_false, Bool.false_or, Bool.true_or, Bool.false_eq_true, ↓reduceIte, Nat.le_refl, Nat.zero_le, true_and, and_true, Nat.reduceLeDiff, Nat.reduceAdd, Nat.add_zero, Nat.zero_add, List.length_cons, List.length_nil, List.set_cons_zero, List.set_cons_succ, Nat.reduceLT, s_fi, s_fl, s_fo, s_fa, s_f0, s_f1, s_set, s_ss, lg_cmp_ge, lg_cmp_le, lg_cmp_gt, lg_cmp_lt, lg_cmp_eq, s_brT, s_brF, s_10, w_Pa_readFactors, r_Pa_readFactors, l_Pa_readFactors_0, l_Pa_readFactors_56, l_Pa_readFactors_92, l_Pa_readFactors_150, ks_16384, f_5_60, ty_5_5, kc_0, f_5_63, ty_5_6, f_5_66, ty_5_7, f_5_69, ty_5_8, kb_8, ml_5_53, w_Pa_has, f_5_14, ml_5_24, w_Cu_u16, kb_64, ks_128, P1', C1']
    refine q_c0 (Nat.le_refl _) (Nat.le_refl _) ?_
    refine c_Cu_u16 C1 (gB _ t1) he hpe (fun hl => ?_) (fun hl => ?_)
    · simp -implicitDefEqProofs only [s_go, s_nil, s_cons, q_ins, s_op, s_i, s_j, s_a, s_v, s_li, s_lj, s_la, s_liO, s_ljO, s_laO, q_get, q_p1, q_p2, s_n2i, s_n2r, s_n2l, s_n2n, q_pad, q_ar, s_ob, s_obO, q_nth, s_ri, s_riO, s_rb, s_rbO, s_rzO, s_rl, s_rlO, s_rq, s_rqO, s_ry, s_ryO, s_dn, s_tl, s_tn, s_ap, s_an, s_ci, s_cr, s_ni, s_n0, s_n1, q_ags, q_cat, List.contains_nil, List.contains_cons, Nat.reduceBEq, Bool.or_false, Bool.false_or, Bool.true_or, Bool.false_eq_true, ↓reduceIte, Nat.le_refl, Nat.zero_le, true_and, and_true, Nat.reduceLeDiff, Nat.reduceAdd, Nat.add_zero, Nat.zero_add, List.length_cons, List.length_nil, List.set_cons_zero, List.set_cons_succ, Nat.reduceLT, s_fi, s_fl, s_fo, s_fa, s_f0, s_f1, s_set, s_ss, lg_cmp_ge, lg_cmp_le, lg_cmp_gt, lg_cmp_lt, lg_cmp_eq, s_brT, s_brF, s_10, w_Pa_readFactors, r_Pa_readFactors, l_Pa_readFactors_0, l_Pa_readFactors_56, l_Pa_readFactors_92, l_Pa_readFactors_150, ks_16384, f_5_60, ty_5_5, kc_0, f_5_63, ty_5_6, f_5_66, ty_5_7, f_5_69, ty_5_8, kb_8, ml_5_53, w_Pa_has, f_5_14, ml_5_24, w_Cu_u16, kb_64, ks_128, P1', C1', s_ne _ _ hoc, s_ne _ _ hoc.symm, e_Cu]
      refine q1 (by omega) _ (j1 (j2 t1 rfl) rfl) ?_ ?_
      · simp only [if_pos b3, s_hs]
        rw [q_s16' (w2_lt hF p)]
        rfl
      · unfold q_Cu
        rw [s_ne _ _ hoc.symm, s_set]
    · simp -implicitDefEqProofs only [s_go, s_nil, s_cons, q_ins, s_op, s_i, s_j, s_a, s_v, s_li, s_lj, s_la, s_liO, s_ljO, s_laO, q_get, q_p1, q_p2, s_n2i, s_n2r, s_n2l, s_n2n, q_pad, q_ar, s_ob, s_obO, q_nth, s_ri, s_riO, s_rb, s_rbO, s_rzO, s_rl, s_rlO, s_rq, s_rqO, s_ry, s_ryO, s_dn, s_tl, s_tn, s_ap, s_an, s_ci, s_cr, s_ni, s_n0, s_n1, q_ags, q_cat, List.contains_nil, List.contains_cons, Nat.reduceBEq, Bool.or_false, Bool.false_or, Bool.true_or, Bool.false_eq_true, ↓reduceIte, Nat.le_refl, Nat.zero_le, true_and, and_true, Nat.reduceLeDiff, Nat.reduceAdd, Nat.add_zero, Nat.zero_add, List.length_cons, List.length_nil, List.set_cons_zero, List.set_cons_succ, Nat.reduceLT, s_fi, s_fl, s_fo, s_fa, s_f0, s_f1, s_set, s_ss, lg_cmp_ge, lg_cmp_le, lg_cmp_gt, lg_cmp_lt, lg_cmp_eq, s_brT, s_brF, s_10, w_Pa_readFactors, r_Pa_readFactors, l_Pa_readFactors_0, l_Pa_readFactors_56, l_Pa_readFactors_92, l_Pa_readFactors_150, ks_16384, f_5_60, ty_5_5, kc_0, f_5_63, ty_5_6, f_5_66, ty_5_7, f_5_69, ty_5_8, kb_8, ml_5_53, w_Pa_has, f_5_14, ml_5_24, w_Cu_u16, kb_64, ks_128, P1', C1', s_ne _ _ hoc, s_ne _ _ hoc.symm, e_Cu]
      refine q2 (by omega) _ _ _ _ _ p (j1 (j2 t1 rfl) rfl) (s_set _ _ _) ?_
      unfold q_Cu
      rw [s_ne _ _ hoc.symm, s_set]
  rw [if_neg b3] at q1 q2
  simp only [if_neg b3] at q1
  simp -implicitDefEqProofs only [s_go, s_nil, s_cons, q_ins, s_op, s_i, s_j, s_a, s_v, s_li, s_lj, s_la, s_liO, s_ljO, s_laO, q_get, q_p1, q_p2, s_n2i, s_n2r, s_n2l, s_n2n, q_pad, q_ar, s_ob, s_obO, q_nth, s_ri, s_riO, s_rb, s_rbO, s_rzO, s_rl, s_rlO, s_rq, s_rqO, s_ry, s_ryO, s_dn, s_tl, s_tn, s_ap, s_an, s_ci, s_cr, s_ni, s_n0, s_n1, q_ags, q_cat, List.contains_nil, List.contains_cons, Nat.reduceBEq, Bool.or_false, Bool.false_or, Bool.true_or, Bool.false_eq_true, ↓reduceIte, Nat.le_refl, Nat.zero_le, true_and, and_true, Nat.reduceLeDiff, Nat.reduceAdd, Nat.add_zero, Nat.zero_add, List.length_cons, List.length_nil, List.set_cons_zero, List.set_cons_succ, Nat.reduceLT, s_fi, s_fl, s_fo, s_fa, s_f0, s_f1, s_set, s_ss, lg_cmp_ge, lg_cmp_le, lg_cmp_gt, lg_cmp_lt, lg_cmp_eq, s_brT, s_brF, s_10, w_Pa_readFactors, r_Pa_readFactors, l_Pa_readFactors_0, l_Pa_readFactors_56, l_Pa_readFactors_92, l_Pa_readFactors_150, ks_16384, f_5_60, ty_5_5, kc_0, f_5_63, ty_5_6, f_5_66, ty_5_7, f_5_69, ty_5_8, kb_8, ml_5_53, w_Pa_has, f_5_14, ml_5_24, w_Cu_u16, kb_64, ks_128, P1', C1']
  refine q_c0 (Nat.le_refl _) (Nat.le_refl _) ?_
  refine c_Pa_has (k := 6) P1 hf (by omega) (fun b6 => ?_) (fun b6 => ?_)
  · rw [if_pos b6] at q1 q2
    simp only [if_pos b6] at q1
    simp -implicitDefEqProofs only [s_go, s_nil, s_cons, q_ins, s_op, s_i, s_j, s_a, s_v, s_li, s_lj, s_la, s_liO, s_ljO, s_laO, q_get, q_p1, q_p2, s_n2i, s_n2r, s_n2l, s_n2n, q_pad, q_ar, s_ob, s_obO, q_nth, s_ri, s_riO, s_rb, s_rbO, s_rzO, s_rl, s_rlO, s_rq, s_rqO, s_ry, s_ryO, s_dn, s_tl, s_tn, s_ap, s_an, s_ci, s_cr, s_ni, s_n0, s_n1, q_ags, q_cat, List.contains_nil, List.contains_cons, Nat.reduceBEq, Bool.or_false, Bool.false_or, Bool.true_or, Bool.false_eq_true, ↓reduceIte, Nat.le_refl, Nat.zero_le, true_and, and_true, Nat.reduceLeDiff, Nat.reduceAdd, Nat.add_zero, Nat.zero_add, List.length_cons, List.length_nil, List.set_cons_zero, List.set_cons_succ, Nat.reduceLT, s_fi, s_fl, s_fo, s_fa, s_f0, s_f1, s_set, s_ss, lg_cmp_ge, lg_cmp_le, lg_cmp_gt, lg_cmp_lt, lg_cmp_eq, s_brT, s_brF, s_10, w_Pa_readFactors, r_Pa_readFactors, l_Pa_readFactors_0, l_Pa_readFactors_56, l_Pa_readFactors_92, l_Pa_readFactors_150, ks_16384, f_5_60, ty_5_5, kc_0, f_5_63, ty_5_6, f_5_66, ty_5_7, f_5_69, ty_5_8, kb_8, ml_5_53, w_Pa_has, f_5_14, ml_5_24, w_Cu_u16, kb_64, ks_128, P1', C1']
    refine q_c0 (Nat.le_refl _) (Nat.le_refl _) ?_
    refine c_Cu_u16 C1 (gB _ t1) he hpe (fun hl => ?_) (fun hl => ?_)
    · simp -implicitDefEqProofs only [s_go, s_nil, s_cons, q_ins, s_op, s_i, s_j, s_a, s_v, s_li, s_lj, s_la, s_liO, s_ljO, s_laO, q_get, q_p1, q_p2, s_n2i, s_n2r, s_n2l, s_n2n, q_pad, q_ar, s_ob, s_obO, q_nth, s_ri, s_riO, s_rb, s_rbO, s_rzO, s_rl, s_rlO, s_rq, s_rqO, s_ry, s_ryO, s_dn, s_tl, s_tn, s_ap, s_an, s_ci, s_cr, s_ni, s_n0, s_n1, q_ags, q_cat, List.contains_nil, List.contains_cons, Nat.reduceBEq, Bool.or_false, Bool.false_or, Bool.true_or, Bool.false_eq_true, ↓reduceIte, Nat.le_refl, Nat.zero_le, true_and, and_true, Nat.reduceLeDiff, Nat.reduceAdd, Nat.add_zero, Nat.zero_add, List.length_cons, List.length_nil, List.set_cons_zero, List.set_cons_succ, Nat.reduceLT, s_fi, s_fl, s_fo, s_fa, s_f0, s_f1, s_set, s_ss, lg_cmp_ge, lg_cmp_le, lg_cmp_gt, lg_cmp_lt, lg_cmp_eq, s_brT, s_brF, s_10, w_Pa_readFactors, r_Pa_readFactors, l_Pa_readFactors_0, l_Pa_readFactors_56, l_Pa_readFactors_92, l_Pa_readFactors_150, ks_16384, f_5_60, ty_5_5, kc_0, f_5_63, ty_5_6, f_5_66, ty_5_7, f_5_69, ty_5_8, kb_8, ml_5_53, w_Pa_has, f_5_14, ml_5_24, w_Cu_u16, kb_64, ks_128, P1', C1', s_ne _ _ hoc, s_ne _ _ hoc.symm, e_Cu]
      refine q_c0 (Nat.le_refl _) (Nat.le_refl _) ?_
      generalize hh2 : q_set (q_set h1 cu _) o _ = h2
      have t2 : q_2 h h2 o cu := j1 (j2 t1 rfl) hh2.symm
      have P2 : h2 o = some (e_Pa cu (nI fl) ch p0 q0 (iI (S16 (w2 F p))) (iI 0) (iI 0) (iI 16384)) := by rw [← hh2, s_set, q_s16' (w2_lt hF p)]; rfl
      have C2 : q_Cu h2 cu f (p + 2) e ro := by unfold q_Cu; rw [← hh2, s_ne _ _ hoc.symm, s_set]
      refine c_Cu_u16 C2 (gB _ t2) he hl (fun hl2 => ?_) (fun hl2 => ?_)
      · have P2' := P2
        unfold e_Pa at P2'
        simp -implicitDefEqProofs only [s_go, s_nil, s_cons, q_ins, s_op, s_i, s_j, s_a, s_v, s_li, s_lj, s_la, s_liO, s_ljO, s_laO, q_get, q_p1, q_p2, s_n2i, s_n2r, s_n2l, s_n2n, q_pad, q_ar, s_ob, s_obO, q_nth, s_ri, s_riO, s_rb, s_rbO, s_rzO, s_rl, s_rlO, s_rq, s_rqO, s_ry, s_ryO, s_dn, s_tl, s_tn, s_ap, s_an, s_ci, s_cr, s_ni, s_n0, s_n1, q_ags, q_cat, List.contains_nil, List.contains_cons, Nat.reduceBEq, Bool.or_false, Bool.false_or, Bool.true_or, Bool.false_eq_true, ↓reduceIte, Nat.le_refl, Nat.zero_le, true_and, and_true, Nat.reduceLeDiff, Nat.reduceAdd, Nat.add_zero, Nat.zero_add, List.length_cons, List.length_nil, List.set_cons_zero, List.set_cons_succ, Nat.reduceLT, s_fi, s_fl, s_fo, s_fa, s_f0, s_f1, s_set, s_ss, lg_cmp_ge, lg_cmp_le, lg_cmp_gt, lg_cmp_lt, lg_cmp_eq, s_brT, s_brF, s_10, w_Pa_readFactors, r_Pa_readFactors, l_Pa_readFactors_0, l_Pa_readFactors_56, l_Pa_readFactors_92, l_Pa_readFactors_150, ks_16384, f_5_60, ty_5_5, kc_0, f_5_63, ty_5_6, f_5_66, ty_5_7, f_5_69, ty_5_8, kb_8, ml_5_53, w_Pa_has, f_5_14, ml_5_24, w_Cu_u16, kb_64, ks_128, P2', s_ne _ _ hoc, s_ne _ _ hoc.symm, e_Cu]
        refine q1 (by omega) _ (j1 (j2 t2 rfl) rfl) ?_ ?_
        · rw [s_set, q_s16' (w2_lt hF (p + 2))]
          rfl
        · unfold q_Cu
          rw [s_ne _ _ hoc.symm, s_set]
      · have P2' := P2
        unfold e_Pa at P2'
        simp -implicitDefEqProofs only [s_go, s_nil, s_cons, q_ins, s_op, s_i, s_j, s_a, s_v, s_li, s_lj, s_la, s_liO, s_ljO, s_laO, q_get, q_p1, q_p2, s_n2i, s_n2r, s_n2l, s_n2n, q_pad, q_ar, s_ob, s_obO, q_nth, s_ri, s_riO, s_rb, s_rbO, s_rzO, s_rl, s_rlO, s_rq, s_rqO, s_ry, s_ryO, s_dn, s_tl, s_tn, s_ap, s_an, s_ci, s_cr, s_ni, s_n0, s_n1, q_ags, q_cat, List.contains_nil, List.contains_cons, Nat.reduceBEq, Bool.or_false, Bool.false_or, Bool.true_or, Bool.false_eq_true, ↓reduceIte, Nat.le_refl, Nat.zero_le, true_and, and_true, Nat.reduceLeDiff, Nat.reduceAdd, Nat.add_zero, Nat.zero_add, List.length_cons, List.length_nil, List.set_cons_zero, List.set_cons_succ, Nat.reduceLT, s_fi, s_fl, s_fo, s_fa, s_f0, s_f1, s_set, s_ss, lg_cmp_ge, lg_cmp_le, lg_cmp_gt, lg_cmp_lt, lg_cmp_eq, s_brT, s_brF, s_10, w_Pa_readFactors, r_Pa_readFactors, l_Pa_readFactors_0, l_Pa_readFactors_56, l_Pa_readFactors_92, l_Pa_readFactors_150, ks_16384, f_5_60, ty_5_5, kc_0, f_5_63, ty_5_6, f_5_66, ty_5_7, f_5_69, ty_5_8, kb_8, ml_5_53, w_Pa_has, f_5_14, ml_5_24, w_Cu_u16, kb_64, ks_128, P2', s_ne _ _ hoc, s_ne _ _ hoc.symm, e_Cu]
        refine q2 (by omega) _ _ _ _ _ (p + 2) (j1 (j2 t2 rfl) rfl) (s_set _ _ _) ?_
        unfold q_Cu
        rw [s_ne _ _ hoc.symm, s_set]
    · simp -implicitDefEqProofs only [s_go, s_nil, s_cons, q_ins, s_op, s_i, s_j, s_a, s_v, s_li, s_lj, s_la, s_liO, s_ljO, s_laO, q_get, q_p1, q_p2, s_n2i, s_n2r, s_n2l, s_n2n, q_pad, q_ar, s_ob, s_obO, q_nth, s_ri, s_riO, s_rb, s_rbO, s_rzO, s_rl, s_rlO, s_rq, s_rqO, s_ry, s_ryO, s_dn, s_tl, s_tn, s_ap, s_an, s_ci, s_cr, s_ni, s_n0, s_n1, q_ags, q_cat, List.contains_nil, List.contains_cons, Nat.reduceBEq, Bool.or_false, Bool.false_or, Bool.true_or, Bool.false_eq_true, ↓reduceIte, Nat.le_refl, Nat.zero_le, true_and, and_true, Nat.reduceLeDiff, Nat.reduceAdd, Nat.add_zero, Nat.zero_add, List.length_cons, List.length_nil, List.set_cons_zero, List.set_cons_succ, Nat.reduceLT, s_fi, s_fl, s_fo, s_fa, s_f0, s_f1, s_set, s_ss, lg_cmp_ge, lg_cmp_le, lg_cmp_gt, lg_cmp_lt, lg_cmp_eq, s_brT, s_brF, s_10, w_Pa_readFactors, r_Pa_readFactors, l_Pa_readFactors_0, l_Pa_readFactors_56, l_Pa_readFactors_92, l_Pa_readFactors_150, ks_16384, f_5_60, ty_5_5, kc_0, f_5_63, ty_5_6, f_5_66, ty_5_7, f_5_69, ty_5_8, kb_8, ml_5_53, w_Pa_has, f_5_14, ml_5_24, w_Cu_u16, kb_64, ks_128, P1', C1', s_ne _ _ hoc, s_ne _ _ hoc.symm, e_Cu]
      refine q_c0 (Nat.le_refl _) (Nat.le_refl _) ?_
      generalize hh2 : q_set (q_set h1 cu _) o _ = h2
      have t2 : q_2 h h2 o cu := j1 (j2 t1 rfl) hh2.symm
      have P2 : h2 o = some (e_Pa cu (nI fl) ch p0 q0 (0 : Int32).toInt16.toInt32 (iI 0) (iI 0) (iI 16384)) := by rw [← hh2]; exact s_set _ _ _
      have C2 : q_Cu h2 cu f p e 1 := by unfold q_Cu; rw [← hh2, s_ne _ _ hoc.symm, s_set]
      have P2' := P2
      unfold e_Pa at P2'
      refine c_Cu_u16 C2 (gB _ t2) he hpe (fun hl2 => absurd hl2 (by omega)) (fun hl2 => ?_)
      simp -implicitDefEqProofs only [s_go, s_nil, s_cons, q_ins, s_op, s_i, s_j, s_a, s_v, s_li, s_lj, s_la, s_liO, s_ljO, s_laO, q_get, q_p1, q_p2, s_n2i, s_n2r, s_n2l, s_n2n, q_pad, q_ar, s_ob, s_obO, q_nth, s_ri, s_riO, s_rb, s_rbO, s_rzO, s_rl, s_rlO, s_rq, s_rqO, s_ry, s_ryO, s_dn, s_tl, s_tn, s_ap, s_an, s_ci, s_cr, s_ni, s_n0, s_n1, q_ags, q_cat, List.contains_nil, List.contains_cons, Nat.reduceBEq, Bool.or_false, Bool.false_or, Bool.true_or, Bool.false_eq_true, ↓reduceIte, Nat.le_refl, Nat.zero_le, true_and, and_true, Nat.reduceLeDiff, Nat.reduceAdd, Nat.add_zero, Nat.zero_add, List.length_cons, List.length_nil, List.set_cons_zero, List.set_cons_succ, Nat.reduceLT, s_fi, s_fl, s_fo, s_fa, s_f0, s_f1, s_set, s_ss, lg_cmp_ge, lg_cmp_le, lg_cmp_gt, lg_cmp_lt, lg_cmp_eq, s_brT, s_brF, s_10, w_Pa_readFactors, r_Pa_readFactors, l_Pa_readFactors_0, l_Pa_readFactors_56, l_Pa_readFactors_92, l_Pa_readFactors_150, ks_16384, f_5_60, ty_5_5, kc_0, f_5_63, ty_5_6, f_5_66, ty_5_7, f_5_69, ty_5_8, kb_8, ml_5_53, w_Pa_has, f_5_14, ml_5_24, w_Cu_u16, kb_64, ks_128, P2', s_ne _ _ hoc, s_ne _ _ hoc.symm, e_Cu]
      refine q2 (by omega) _ _ _ _ _ p (j1 (j2 t2 rfl) rfl) (s_set _ _ _) ?_
      unfold q_Cu
      rw [s_ne _ _ hoc.symm, s_set]
  rw [if_neg b6] at q1 q2
  simp only [if_neg b6] at q1
  simp -implicitDefEqProofs only [s_go, s_nil, s_cons, q_ins, s_op, s_i, s_j, s_a, s_v, s_li, s_lj, s_la, s_liO, s_ljO, s_laO, q_get, q_p1, q_p2, s_n2i, s_n2r, s_n2l, s_n2n, q_pad, q_ar, s_ob, s_obO, q_nth, s_ri, s_riO, s_rb, s_rbO, s_rzO, s_rl, s_rlO, s_rq, s_rqO, s_ry, s_ryO, s_dn, s_tl, s_tn, s_ap, s_an, s_ci, s_cr, s_ni, s_n0, s_n1, q_ags, q_cat, List.contains_nil, List.contains_cons, Nat.reduceBEq, Bool.or_false, Bool.false_or, Bool.true_or, Bool.false_eq_true, ↓reduceIte, Nat.le_refl, Nat.zero_le, true_and, and_true, Nat.reduceLeDiff, Nat.reduceAdd, Nat.add_zero, Nat.zero_add, List.length_cons, List.length_nil, List.set_cons_zero, List.set_cons_succ, Nat.reduceLT, s_fi, s_fl, s_fo, s_fa, s_f0, s_f1, s_set, s_ss, lg_cmp_ge, lg_cmp_le, lg_cmp_gt, lg_cmp_lt, lg_cmp_eq, s_brT, s_brF, s_10, w_Pa_readFactors, r_Pa_readFactors, l_Pa_readFactors_0, l_Pa_readFactors_56, l_Pa_readFactors_92, l_Pa_readFactors_150, ks_16384, f_5_60, ty_5_5, kc_0, f_5_63, ty_5_6, f_5_66, ty_5_7, f_5_69, ty_5_8, kb_8, ml_5_53, w_Pa_has, f_5_14, ml_5_24, w_Cu_u16, kb_64, ks_128, P1', C1']
  refine q_c0 (Nat.le_refl _) (Nat.le_refl _) ?_
  refine c_Pa_has (k := 7) P1 hf (by omega) (fun b7 => ?_) (fun b7 => ?_)
  · rw [if_pos b7] at q1 q2
    simp only [if_pos b7] at q1
    -- four numbers, one behind another; once it ran out, it stays so
    simp -implicitDefEqProofs only [s_go, s_nil, s_cons, q_ins, s_op, s_i, s_j, s_a, s_v, s_li, s_lj, s_la, s_liO, s_ljO, s_laO, q_get, q_p1, q_p2, s_n2i, s_n2r, s_n2l, s_n2n, q_pad, q_ar, s_ob, s_obO, q_nth, s_ri, s_riO, s_rb, s_rbO, s_rzO, s_rl, s_rlO, s_rq, s_rqO, s_ry, s_ryO, s_dn, s_tl, s_tn, s_ap, s_an, s_ci, s_cr, s_ni, s_n0, s_n1, q_ags, q_cat, List.contains_nil, List.contains_cons, Nat.reduceBEq, Bool.or_false, Bool.false_or, Bool.true_or, Bool.false_eq_true, ↓reduceIte, Nat.le_refl, Nat.zero_le, true_and, and_true, Nat.reduceLeDiff, Nat.reduceAdd, Nat.add_zero, Nat.zero_add, List.length_cons, List.length_nil, List.set_cons_zero, List.set_cons_succ, Nat.reduceLT, s_fi, s_fl, s_fo, s_fa, s_f0, s_f1, s_set, s_ss, lg_cmp_ge, lg_cmp_le, lg_cmp_gt, lg_cmp_lt, lg_cmp_eq, s_brT, s_brF, s_10, w_Pa_readFactors, r_Pa_readFactors, l_Pa_readFactors_0, l_Pa_readFactors_56, l_Pa_readFactors_92, l_Pa_readFactors_150, ks_16384, f_5_60, ty_5_5, kc_0, f_5_63, ty_5_6, f_5_66, ty_5_7, f_5_69, ty_5_8, kb_8, ml_5_53, w_Pa_has, f_5_14, ml_5_24, w_Cu_u16, kb_64, ks_128, P1', C1']
    refine q_c0 (Nat.le_refl _) (Nat.le_refl _) ?_
    refine c_Cu_u16 C1 (gB _ t1) he (by omega) (fun hl0 => ?_) (fun hl0 => ?_)
    · simp -implicitDefEqProofs only [s_go, s_nil, s_cons, q_ins, s_op, s_i, s_j, s_a, s_v, s_li, s_lj, s_la, s_liO, s_ljO, s_laO, q_get, q_p1, q_p2, s_n2i, s_n2r, s_n2l, s_n2n, q_pad, q_ar, s_ob, s_obO, q_nth, s_ri, s_riO, s_rb, s_rbO, s_rzO, s_rl, s_rlO, s_rq, s_rqO, s_ry, s_ryO, s_dn, s_tl, s_tn, s_ap, s_an, s_ci, s_cr, s_ni, s_n0, s_n1, q_ags, q_cat, List.contains_nil, List.contains_cons, Nat.reduceBEq, Bool.or_false, Bool.false_or, Bool.true_or, Bool.false_eq_true, ↓reduceIte, Nat.le_refl, Nat.zero_le, true_and, and_true, Nat.reduceLeDiff, Nat.reduceAdd, Nat.add_zero, Nat.zero_add, List.length_cons, List.length_nil, List.set_cons_zero, List.set_cons_succ, Nat.reduceLT, s_fi, s_fl, s_fo, s_fa, s_f0, s_f1, s_set, s_ss, lg_cmp_ge, lg_cmp_le, lg_cmp_gt, lg_cmp_lt, lg_cmp_eq, s_brT, s_brF, s_10, w_Pa_readFactors, r_Pa_readFactors, l_Pa_readFactors_0, l_Pa_readFactors_56, l_Pa_readFactors_92, l_Pa_readFactors_150, ks_16384, f_5_60, ty_5_5, kc_0, f_5_63, ty_5_6, f_5_66, ty_5_7, f_5_69, ty_5_8, kb_8, ml_5_53, w_Pa_has, f_5_14, ml_5_24, w_Cu_u16, kb_64, ks_128, P1', C1', s_ne _ _ hoc, s_ne _ _ hoc.symm, e_Cu]
      refine q_c0 (Nat.le_refl _) (Nat.le_refl _) ?_
      generalize hh_h1o : q_set (q_set h1 cu _) o _ = h1o
      have t_h1o : q_2 h h1o o cu := j1 (j2 t1 rfl) hh_h1o.symm
      have P_h1o : h1o o = some (e_Pa cu (nI fl) ch p0 q0 (iI (S16 (w2 F p))) (iI 0) (iI 0) (iI 16384)) := by rw [← hh_h1o, s_set, q_s16' (w2_lt hF (p))]; rfl
      have C_h1o : q_Cu h1o cu f (p + 2) e ro := by unfold q_Cu; rw [← hh_h1o, s_ne _ _ hoc.symm, s_set]
      have P_h1o' := P_h1o
      unfold e_Pa at P_h1o'
      have C_h1o' : h1o cu = some (.inr (2, [.ref f, .int (nI (p + 2)), .int (nI e), .int ro])) := C_h1o
      refine c_Cu_u16 C_h1o (gB _ t_h1o) he (by omega) (fun hl1 => ?_) (fun hl1 => ?_)
      · simp -implicitDefEqProofs only [s_go, s_nil, s_cons, q_ins, s_op, s_i, s_j, s_a, s_v, s_li, s_lj, s_la, s_liO, s_ljO, s_laO, q_get, q_p1, q_p2, s_n2i, s_n2r, s_n2l, s_n2n, q_pad, q_ar, s_ob, s_obO, q_nth, s_ri, s_riO, s_rb, s_rbO, s_rzO, s_rl, s_rlO, s_rq, s_rqO, s_ry, s_ryO, s_dn, s_tl, s_tn, s_ap, s_an, s_ci, s_cr, s_ni, s_n0, s_n1, q_ags, q_cat, List.contains_nil, List.contains_cons, Nat.reduceBEq, Bool.or_false, Bool.false_or, Bool.true_or, Bool.false_eq_true, ↓reduceIte, Nat.le_refl, Nat.zero_le, true_and, and_true, Nat.reduceLeDiff, Nat.reduceAdd, Nat.add_zero, Nat.zero_add, List.length_cons, List.length_nil, List.set_cons_zero, List.set_cons_succ, Nat.reduceLT, s_fi, s_fl, s_fo, s_fa, s_f0, s_f1, s_set, s_ss, lg_cmp_ge, lg_cmp_le, lg_cmp_gt, lg_cmp_lt, lg_cmp_eq, s_brT, s_brF, s_10, w_Pa_readFactors, r_Pa_readFactors, l_Pa_readFactors_0, l_Pa_readFactors_56, l_Pa_readFactors_92, l_Pa_readFactors_150, ks_16384, f_5_60, ty_5_5, kc_0, f_5_63, ty_5_6, f_5_66, ty_5_7, f_5_69, ty_5_8, kb_8, ml_5_53, w_Pa_has, f_5_14, ml_5_24, w_Cu_u16, kb_64, ks_128, P_h1o', C_h1o', s_ne _ _ hoc, s_ne _ _ hoc.symm, e_Cu]
        refine q_c0 (Nat.le_refl _) (Nat.le_refl _) ?_
        generalize hh_h1oo : q_set (q_set h1o cu _) o _ = h1oo
        have t_h1oo : q_2 h h1oo o cu := j1 (j2 t_h1o rfl) hh_h1oo.symm
        have P_h1oo : h1oo o = some (e_Pa cu (nI fl) ch p0 q0 (iI (S16 (w2 F p))) (iI (S16 (w2 F (p + 2)))) (iI 0) (iI 16384)) := by rw [← hh_h1oo, s_set, q_s16' (w2_lt hF (p + 2))]; rfl
        have C_h1oo : q_Cu h1oo cu f (p + 4) e ro := by unfold q_Cu; rw [← hh_h1oo, s_ne _ _ hoc.symm, s_set]
        have P_h1oo' := P_h1oo
        unfold e_Pa at P_h1oo'
        have C_h1oo' : h1oo cu = some (.inr (2, [.ref f, .int (nI (p + 4)), .int (nI e), .int ro])) := C_h1oo
        refine c_Cu_u16 C_h1oo (gB _ t_h1oo) he (by omega) (fun hl2 => ?_) (fun hl2 => ?_)
        · simp -implicitDefEqProofs only [s_go, s_nil, s_cons, q_ins, s_op, s_i, s_j, s_a, s_v, s_li, s_lj, s_la, s_liO, s_ljO, s_laO, q_get, q_p1, q_p2, s_n2i, s_n2r, s_n2l, s_n2n, q_pad, q_ar, s_ob, s_obO, q_nth, s_ri, s_riO, s_rb, s_rbO, s_rzO, s_rl, s_rlO, s_rq, s_rqO, s_ry, s_ryO, s_dn, s_tl, s_tn, s_ap, s_an, s_ci, s_cr, s_ni, s_n0, s_n1, q_ags, q_cat, List.contains_nil, List.contains_cons, Nat.reduceBEq, Bool.or_false, Bool.false_or, Bool.true_or, Bool.false_eq_true, ↓reduceIte, Nat.le_refl, Nat.zero_le, true_and, and_true, Nat.reduceLeDiff, Nat.reduceAdd, Nat.add_zero, Nat.zero_add, List.length_cons, List.length_nil, List.set_cons_zero, List.set_cons_succ, Nat.reduceLT, s_fi, s_fl, s_fo, s_fa, s_f0, s_f1, s_set, s_ss, lg_cmp_ge, lg_cmp_le, lg_cmp_gt, lg_cmp_lt, lg_cmp_eq, s_brT, s_brF, s_10, w_Pa_readFactors, r_Pa_readFactors, l_Pa_readFactors_0, l_Pa_readFactors_56, l_Pa_readFactors_92, l_Pa_readFactors_150, ks_16384, f_5_60, ty_5_5, kc_0, f_5_63, ty_5_6, f_5_66, ty_5_7, f_5_69, ty_5_8, kb_8, ml_5_53, w_Pa_has, f_5_14, ml_5_24, w_Cu_u16, kb_64, ks_128, P_h1oo', C_h1oo', s_ne _ _ hoc, s_ne _ _ hoc.symm, e_Cu]
          refine q_c0 (Nat.le_refl _) (Nat.le_refl _) ?_
          generalize hh_h1ooo : q_set (q_set h1oo cu _) o _ = h1ooo
          have t_h1ooo : q_2 h h1ooo o cu := j1 (j2 t_h1oo rfl) hh_h1ooo.symm
          have P_h1ooo : h1ooo o = some (e_Pa cu (nI fl) ch p0 q0 (iI (S16 (w2 F p))) (iI (S16 (w2 F (p + 2)))) (iI (S16 (w2 F (p + 4)))) (iI 16384)) := by rw [← hh_h1ooo, s_set, q_s16' (w2_lt hF (p + 4))]; rfl
          have C_h1ooo : q_Cu h1ooo cu f (p + 6) e ro := by unfold q_Cu; rw [← hh_h1ooo, s_ne _ _ hoc.symm, s_set]
          have P_h1ooo' := P_h1ooo
          unfold e_Pa at P_h1ooo'
          have C_h1ooo' : h1ooo cu = some (.inr (2, [.ref f, .int (nI (p + 6)), .int (nI e), .int ro])) := C_h1ooo
          refine c_Cu_u16 C_h1ooo (gB _ t_h1ooo) he (by omega) (fun hl3 => ?_) (fun hl3 => ?_)
          · simp -implicitDefEqProofs only [s_go, s_nil, s_cons, q_ins, s_op, s_i, s_j, s_a, s_v, s_li, s_lj, s_la, s_liO, s_ljO, s_laO, q_get, q_p1, q_p2, s_n2i, s_n2r, s_n2l, s_n2n, q_pad, q_ar, s_ob, s_obO, q_nth, s_ri, s_riO, s_rb, s_rbO, s_rzO, s_rl, s_rlO, s_rq, s_rqO, s_ry, s_ryO, s_dn, s_tl, s_tn, s_ap, s_an, s_ci, s_cr, s_ni, s_n0, s_n1, q_ags, q_cat, List.contains_nil, List.contains_cons, Nat.reduceBEq, Bool.or_false, Bool.false_or, Bool.true_or, Bool.false_eq_true, ↓reduceIte, Nat.le_refl, Nat.zero_le, true_and, and_true, Nat.reduceLeDiff, Nat.reduceAdd, Nat.add_zero, Nat.zero_add, List.length_cons, List.length_nil, List.set_cons_zero, List.set_cons_succ, Nat.reduceLT, s_fi, s_fl, s_fo, s_fa, s_f0, s_f1, s_set, s_ss, lg_cmp_ge, lg_cmp_le, lg_cmp_gt, lg_cmp_lt, lg_cmp_eq, s_brT, s_brF, s_10, w_Pa_readFactors, r_Pa_readFactors, l_Pa_readFactors_0, l_Pa_readFactors_56, l_Pa_readFactors_92, l_Pa_readFactors_150, ks_16384, f_5_60, ty_5_5, kc_0, f_5_63, ty_5_6, f_5_66, ty_5_7, f_5_69, ty_5_8, kb_8, ml_5_53, w_Pa_has, f_5_14, ml_5_24, w_Cu_u16, kb_64, ks_128, P_h1ooo', C_h1ooo', s_ne _ _ hoc, s_ne _ _ hoc.symm, e_Cu]
            refine q1 (by omega) _ (j1 (j2 t_h1ooo rfl) rfl) ?_ ?_
            · rw [s_set, q_s16' (w2_lt hF (p + 6))]; rfl
            · unfold q_Cu; rw [s_ne _ _ hoc.symm, s_set]
          · simp -implicitDefEqProofs only [s_go, s_nil, s_cons, q_ins, s_op, s_i, s_j, s_a, s_v, s_li, s_lj, s_la, s_liO, s_ljO, s_laO, q_get, q_p1, q_p2, s_n2i, s_n2r, s_n2l, s_n2n, q_pad, q_ar, s_ob, s_obO, q_nth, s_ri, s_riO, s_rb, s_rbO, s_rzO, s_rl, s_rlO, s_rq, s_rqO, s_ry, s_ryO, s_dn, s_tl, s_tn, s_ap, s_an, s_ci, s_cr, s_ni, s_n0, s_n1, q_ags, q_cat, List.contains_nil, List.contains_cons, Nat.reduceBEq, Bool.or_false, Bool.false_or, Bool.true_or, Bool.false_eq_true, ↓reduceIte, Nat.le_refl, Nat.zero_le, true_and, and_true, Nat.reduceLeDiff, Nat.reduceAdd, Nat.add_zero, Nat.zero_add, List.length_cons, List.length_nil, List.set_cons_zero, List.set_cons_succ, Nat.reduceLT, s_fi, s_fl, s_fo, s_fa, s_f0, s_f1, s_set, s_ss, lg_cmp_ge, lg_cmp_le, lg_cmp_gt, lg_cmp_lt, lg_cmp_eq, s_brT, s_brF, s_10, w_Pa_readFactors, r_Pa_readFactors, l_Pa_readFactors_0, l_Pa_readFactors_56, l_Pa_readFactors_92, l_Pa_readFactors_150, ks_16384, f_5_60, ty_5_5, kc_0, f_5_63, ty_5_6, f_5_66, ty_5_7, f_5_69, ty_5_8, kb_8, ml_5_53, w_Pa_has, f_5_14, ml_5_24, w_Cu_u16, kb_64, ks_128, P_h1ooo', C_h1ooo', s_ne _ _ hoc, s_ne _ _ hoc.symm, e_Cu]
            refine q2 (by omega) _ _ _ _ _ (p + 6) (j1 (j2 t_h1ooo rfl) rfl) (s_set _ _ _) ?_
            unfold q_Cu; rw [s_ne _ _ hoc.symm, s_set]
        · simp -implicitDefEqProofs only [s_go, s_nil, s_cons, q_ins, s_op, s_i, s_j, s_a, s_v, s_li, s_lj, s_la, s_liO, s_ljO, s_laO, q_get, q_p1, q_p2, s_n2i, s_n2r, s_n2l, s_n2n, q_pad, q_ar, s_ob, s_obO, q_nth, s_ri, s_riO, s_rb, s_rbO, s_rzO, s_rl, s_rlO, s_rq, s_rqO, s_ry, s_ryO, s_dn, s_tl, s_tn, s_ap, s_an, s_ci, s_cr, s_ni, s_n0, s_n1, q_ags, q_cat, List.contains_nil, List.contains_cons, Nat.reduceBEq, Bool.or_false, Bool.false_or, Bool.true_or, Bool.false_eq_true, ↓reduceIte, Nat.le_refl, Nat.zero_le, true_and, and_true, Nat.reduceLeDiff, Nat.reduceAdd, Nat.add_zero, Nat.zero_add, List.length_cons, List.length_nil, List.set_cons_zero, List.set_cons_succ, Nat.reduceLT, s_fi, s_fl, s_fo, s_fa, s_f0, s_f1, s_set, s_ss, lg_cmp_ge, lg_cmp_le, lg_cmp_gt, lg_cmp_lt, lg_cmp_eq, s_brT, s_brF, s_10, w_Pa_readFactors, r_Pa_readFactors, l_Pa_readFactors_0, l_Pa_readFactors_56, l_Pa_readFactors_92, l_Pa_readFactors_150, ks_16384, f_5_60, ty_5_5, kc_0, f_5_63, ty_5_6, f_5_66, ty_5_7, f_5_69, ty_5_8, kb_8, ml_5_53, w_Pa_has, f_5_14, ml_5_24, w_Cu_u16, kb_64, ks_128, P_h1oo', C_h1oo', s_ne _ _ hoc, s_ne _ _ hoc.symm, e_Cu]
          refine q_c0 (Nat.le_refl _) (Nat.le_refl _) ?_
          generalize hh_h1oox : q_set (q_set h1oo cu _) o _ = h1oox
          have t_h1oox : q_2 h h1oox o cu := j1 (j2 t_h1oo rfl) hh_h1oox.symm
          have P_h1oox : h1oox o = some (e_Pa cu (nI fl) ch p0 q0 (iI (S16 (w2 F p))) (iI (S16 (w2 F (p + 2)))) (0 : Int32).toInt16.toInt32 (iI 16384)) := by rw [← hh_h1oox]; exact s_set _ _ _
          have C_h1oox : q_Cu h1oox cu f (p + 4) e 1 := by unfold q_Cu; rw [← hh_h1oox, s_ne _ _ hoc.symm, s_set]
          have P_h1oox' := P_h1oox
          unfold e_Pa at P_h1oox'
          have C_h1oox' : h1oox cu = some (.inr (2, [.ref f, .int (nI (p + 4)), .int (nI e), .int 1])) := C_h1oox
          refine c_Cu_u16 C_h1oox (gB _ t_h1oox) he (by omega) (fun z => absurd z (by omega)) (fun z => ?_)
          simp -implicitDefEqProofs only [s_go, s_nil, s_cons, q_ins, s_op, s_i, s_j, s_a, s_v, s_li, s_lj, s_la, s_liO, s_ljO, s_laO, q_get, q_p1, q_p2, s_n2i, s_n2r, s_n2l, s_n2n, q_pad, q_ar, s_ob, s_obO, q_nth, s_ri, s_riO, s_rb, s_rbO, s_rzO, s_rl, s_rlO, s_rq, s_rqO, s_ry, s_ryO, s_dn, s_tl, s_tn, s_ap, s_an, s_ci, s_cr, s_ni, s_n0, s_n1, q_ags, q_cat, List.contains_nil, List.contains_cons, Nat.reduceBEq, Bool.or_false, Bool.false_or, Bool.true_or, Bool.false_eq_true, ↓reduceIte, Nat.le_refl, Nat.zero_le, true_and, and_true, Nat.reduceLeDiff, Nat.reduceAdd, Nat.add_zero, Nat.zero_add, List.length_cons, List.length_nil, List.set_cons_zero, List.set_cons_succ, Nat.reduceLT, s_fi, s_fl, s_fo, s_fa, s_f0, s_f1, s_set, s_ss, lg_cmp_ge, lg_cmp_le, lg_cmp_gt, lg_cmp_lt, lg_cmp_eq, s_brT, s_brF, s_10, w_Pa_readFactors, r_Pa_readFactors, l_Pa_readFactors_0, l_Pa_readFactors_56, l_Pa_readFactors_92, l_Pa_readFactors_150, ks_16384, f_5_60, ty_5_5, kc_0, f_5_63, ty_5_6, f_5_66, ty_5_7, f_5_69, ty_5_8, kb_8, ml_5_53, w_Pa_has, f_5_14, ml_5_24, w_Cu_u16, kb_64, ks_128, P_h1oox', C_h1oox', s_ne _ _ hoc, s_ne _ _ hoc.symm, e_Cu]
          refine q2 (by omega) _ _ _ _ _ (p + 4) (j1 (j2 t_h1oox rfl) rfl) (s_set _ _ _) ?_
          unfold q_Cu; rw [s_ne _ _ hoc.symm, s_set]
      · simp -implicitDefEqProofs only [s_go, s_nil, s_cons, q_ins, s_op, s_i, s_j, s_a, s_v, s_li, s_lj, s_la, s_liO, s_ljO, s_laO, q_get, q_p1, q_p2, s_n2i, s_n2r, s_n2l, s_n2n, q_pad, q_ar, s_ob, s_obO, q_nth, s_ri, s_riO, s_rb, s_rbO, s_rzO, s_rl, s_rlO, s_rq, s_rqO, s_ry, s_ryO, s_dn, s_tl, s_tn, s_ap, s_an, s_ci, s_cr, s_ni, s_n0, s_n1, q_ags, q_cat, List.contains_nil, List.contains_cons, Nat.reduceBEq, Bool.or_false, Bool.false_or, Bool.true_or, Bool.false_eq_true, ↓reduceIte, Nat.le_refl, Nat.zero_le, true_and, and_true, Nat.reduceLeDiff, Nat.reduceAdd, Nat.add_zero, Nat.zero_add, List.length_cons, List.length_nil, List.set_cons_zero, List.set_cons_succ, Nat.reduceLT, s_fi, s_fl, s_fo, s_fa, s_f0, s_f1, s_set, s_ss, lg_cmp_ge, lg_cmp_le, lg_cmp_gt, lg_cmp_lt, lg_cmp_eq, s_brT, s_brF, s_10, w_Pa_readFactors, r_Pa_readFactors, l_Pa_readFactors_0, l_Pa_readFactors_56, l_Pa_readFactors_92, l_Pa_readFactors_150, ks_16384, f_5_60, ty_5_5, kc_0, f_5_63, ty_5_6, f_5_66, ty_5_7, f_5_69, ty_5_8, kb_8, ml_5_53, w_Pa_has, f_5_14, ml_5_24, w_Cu_u16, kb_64, ks_128, P_h1o', C_h1o', s_ne _ _ hoc, s_ne _ _ hoc.symm, e_Cu]
        refine q_c0 (Nat.le_refl _) (Nat.le_refl _) ?_
        generalize hh_h1ox : q_set (q_set h1o cu _) o _ = h1ox
        have t_h1ox : q_2 h h1ox o cu := j1 (j2 t_h1o rfl) hh_h1ox.symm
        have P_h1ox : h1ox o = some (e_Pa cu (nI fl) ch p0 q0 (iI (S16 (w2 F p))) (0 : Int32).toInt16.toInt32 (iI 0) (iI 16384)) := by rw [← hh_h1ox]; exact s_set _ _ _
        have C_h1ox : q_Cu h1ox cu f (p + 2) e 1 := by unfold q_Cu; rw [← hh_h1ox, s_ne _ _ hoc.symm, s_set]
        have P_h1ox' := P_h1ox
        unfold e_Pa at P_h1ox'
        have C_h1ox' : h1ox cu = some (.inr (2, [.ref f, .int (nI (p + 2)), .int (nI e), .int 1])) := C_h1ox
        refine c_Cu_u16 C_h1ox (gB _ t_h1ox) he (by omega) (fun z => absurd z (by omega)) (fun z => ?_)
        simp -implicitDefEqProofs only [s_go, s_nil, s_cons, q_ins, s_op, s_i, s_j, s_a, s_v, s_li, s_lj, s_la, s_liO, s_ljO, s_laO, q_get, q_p1, q_p2, s_n2i, s_n2r, s_n2l, s_n2n, q_pad, q_ar, s_ob, s_obO, q_nth, s_ri, s_riO, s_rb, s_rbO, s_rzO, s_rl, s_rlO, s_rq, s_rqO, s_ry, s_ryO, s_dn, s_tl, s_tn, s_ap, s_an, s_ci, s_cr, s_ni, s_n0, s_n1, q_ags, q_cat, List.contains_nil, List.contains_cons, Nat.reduceBEq, Bool.or_false, Bool.false_or, Bool.true_or, Bool.false_eq_true, ↓reduceIte, Nat.le_refl, Nat.zero_le, true_and, and_true, Nat.reduceLeDiff, Nat.reduceAdd, Nat.add_zero, Nat.zero_add, List.length_cons, List.length_nil, List.set_cons_zero, List.set_cons_succ, Nat.reduceLT, s_fi, s_fl, s_fo, s_fa, s_f0, s_f1, s_set, s_ss, lg_cmp_ge, lg_cmp_le, lg_cmp_gt, lg_cmp_lt, lg_cmp_eq, s_brT, s_brF, s_10, w_Pa_readFactors, r_Pa_readFactors, l_Pa_readFactors_0, l_Pa_readFactors_56, l_Pa_readFactors_92, l_Pa_readFactors_150, ks_16384, f_5_60, ty_5_5, kc_0, f_5_63, ty_5_6, f_5_66, ty_5_7, f_5_69, ty_5_8, kb_8, ml_5_53, w_Pa_has, f_5_14, ml_5_24, w_Cu_u16, kb_64, ks_128, P_h1ox', C_h1ox', s_ne _ _ hoc, s_ne _ _ hoc.symm, e_Cu]
        refine q_c0 (Nat.le_refl _) (Nat.le_refl _) ?_
        generalize hh_h1oxx : q_set (q_set h1ox cu _) o _ = h1oxx
        have t_h1oxx : q_2 h h1oxx o cu := j1 (j2 t_h1ox rfl) hh_h1oxx.symm
        have P_h1oxx : h1oxx o = some (e_Pa cu (nI fl) ch p0 q0 (iI (S16 (w2 F p))) (0 : Int32).toInt16.toInt32 (0 : Int32).toInt16.toInt32 (iI 16384)) := by rw [← hh_h1oxx]; exact s_set _ _ _
        have C_h1oxx : q_Cu h1oxx cu f (p + 2) e 1 := by unfold q_Cu; rw [← hh_h1oxx, s_ne _ _ hoc.symm, s_set]
        have P_h1oxx' := P_h1oxx
        unfold e_Pa at P_h1oxx'
        have C_h1oxx' : h1oxx cu = some (.inr (2, [.ref f, .int (nI (p + 2)), .int (nI e), .int 1])) := C_h1oxx
        refine c_Cu_u16 C_h1oxx (gB _ t_h1oxx) he (by omega) (fun z => absurd z (by omega)) (fun z => ?_)
        simp -implicitDefEqProofs only [s_go, s_nil, s_cons, q_ins, s_op, s_i, s_j, s_a, s_v, s_li, s_lj, s_la, s_liO, s_ljO, s_laO, q_get, q_p1, q_p2, s_n2i, s_n2r, s_n2l, s_n2n, q_pad, q_ar, s_ob, s_obO, q_nth, s_ri, s_riO, s_rb, s_rbO, s_rzO, s_rl, s_rlO, s_rq, s_rqO, s_ry, s_ryO, s_dn, s_tl, s_tn, s_ap, s_an, s_ci, s_cr, s_ni, s_n0, s_n1, q_ags, q_cat, List.contains_nil, List.contains_cons, Nat.reduceBEq, Bool.or_false, Bool.false_or, Bool.true_or, Bool.false_eq_true, ↓reduceIte, Nat.le_refl, Nat.zero_le, true_and, and_true, Nat.reduceLeDiff, Nat.reduceAdd, Nat.add_zero, Nat.zero_add, List.length_cons, List.length_nil, List.set_cons_zero, List.set_cons_succ, Nat.reduceLT, s_fi, s_fl, s_fo, s_fa, s_f0, s_f1, s_set, s_ss, lg_cmp_ge, lg_cmp_le, lg_cmp_gt, lg_cmp_lt, lg_cmp_eq, s_brT, s_brF, s_10, w_Pa_readFactors, r_Pa_readFactors, l_Pa_readFactors_0, l_Pa_readFactors_56, l_Pa_readFactors_92, l_Pa_readFactors_150, ks_16384, f_5_60, ty_5_5, kc_0, f_5_63, ty_5_6, f_5_66, ty_5_7, f_5_69, ty_5_8, kb_8, ml_5_53, w_Pa_has, f_5_14, ml_5_24, w_Cu_u16, kb_64, ks_128, P_h1oxx', C_h1oxx', s_ne _ _ hoc, s_ne _ _ hoc.symm, e_Cu]
        refine q2 (by omega) _ _ _ _ _ (p + 2) (j1 (j2 t_h1oxx rfl) rfl) (s_set _ _ _) ?_
        unfold q_Cu; rw [s_ne _ _ hoc.symm, s_set]
    · simp -implicitDefEqProofs only [s_go, s_nil, s_cons, q_ins, s_op, s_i, s_j, s_a, s_v, s_li, s_lj, s_la, s_liO, s_ljO, s_laO, q_get, q_p1, q_p2, s_n2i, s_n2r, s_n2l, s_n2n, q_pad, q_ar, s_ob, s_obO, q_nth, s_ri, s_riO, s_rb, s_rbO, s_rzO, s_rl, s_rlO, s_rq, s_rqO, s_ry, s_ryO, s_dn, s_tl, s_tn, s_ap, s_an, s_ci, s_cr, s_ni, s_n0, s_n1, q_ags, q_cat, List.contains_nil, List.contains_cons, Nat.reduceBEq, Bool.or_false, Bool.false_or, Bool.true_or, Bool.false_eq_true, ↓reduceIte, Nat.le_refl, Nat.zero_le, true_and, and_true, Nat.reduceLeDiff, Nat.reduceAdd, Nat.add_zero, Nat.zero_add, List.length_cons, List.length_nil, List.set_cons_zero, List.set_cons_succ, Nat.reduceLT, s_fi, s_fl, s_fo, s_fa, s_f0, s_f1, s_set, s_ss, lg_cmp_ge, lg_cmp_le, lg_cmp_gt, lg_cmp_lt, lg_cmp_eq, s_brT, s_brF, s_10, w_Pa_readFactors, r_Pa_readFactors, l_Pa_readFactors_0, l_Pa_readFactors_56, l_Pa_readFactors_92, l_Pa_readFactors_150, ks_16384, f_5_60, ty_5_5, kc_0, f_5_63, ty_5_6, f_5_66, ty_5_7, f_5_69, ty_5_8, kb_8, ml_5_53, w_Pa_has, f_5_14, ml_5_24, w_Cu_u16, kb_64, ks_128, P1', C1', s_ne _ _ hoc, s_ne _ _ hoc.symm, e_Cu]
      refine q_c0 (Nat.le_refl _) (Nat.le_refl _) ?_
      generalize hh_h1x : q_set (q_set h1 cu _) o _ = h1x
      have t_h1x : q_2 h h1x o cu := j1 (j2 t1 rfl) hh_h1x.symm
      have P_h1x : h1x o = some (e_Pa cu (nI fl) ch p0 q0 (0 : Int32).toInt16.toInt32 (iI 0) (iI 0) (iI 16384)) := by rw [← hh_h1x]; exact s_set _ _ _
      have C_h1x : q_Cu h1x cu f (p) e 1 := by unfold q_Cu; rw [← hh_h1x, s_ne _ _ hoc.symm, s_set]
      have P_h1x' := P_h1x
      unfold e_Pa at P_h1x'
      have C_h1x' : h1x cu = some (.inr (2, [.ref f, .int (nI (p)), .int (nI e), .int 1])) := C_h1x
      refine c_Cu_u16 C_h1x (gB _ t_h1x) he (by omega) (fun z => absurd z (by omega)) (fun z => ?_)
      simp -implicitDefEqProofs only [s_go, s_nil, s_cons, q_ins, s_op, s_i, s_j, s_a, s_v, s_li, s_lj, s_la, s_liO, s_ljO, s_laO, q_get, q_p1, q_p2, s_n2i, s_n2r, s_n2l, s_n2n, q_pad, q_ar, s_ob, s_obO, q_nth, s_ri, s_riO, s_rb, s_rbO, s_rzO, s_rl, s_rlO, s_rq, s_rqO, s_ry, s_ryO, s_dn, s_tl, s_tn, s_ap, s_an, s_ci, s_cr, s_ni, s_n0, s_n1, q_ags, q_cat, List.contains_nil, List.contains_cons, Nat.reduceBEq, Bool.or_false, Bool.false_or, Bool.true_or, Bool.false_eq_true, ↓reduceIte, Nat.le_refl, Nat.zero_le, true_and, and_true, Nat.reduceLeDiff, Nat.reduceAdd, Nat.add_zero, Nat.zero_add, List.length_cons, List.length_nil, List.set_cons_zero, List.set_cons_succ, Nat.reduceLT, s_fi, s_fl, s_fo, s_fa, s_f0, s_f1, s_set, s_ss, lg_cmp_ge, lg_cmp_le, lg_cmp_gt, lg_cmp_lt, lg_cmp_eq, s_brT, s_brF, s_10, w_Pa_readFactors, r_Pa_readFactors, l_Pa_readFactors_0, l_Pa_readFactors_56, l_Pa_readFactors_92, l_Pa_readFactors_150, ks_16384, f_5_60, ty_5_5, kc_0, f_5_63, ty_5_6, f_5_66, ty_5_7, f_5_69, ty_5_8, kb_8, ml_5_53, w_Pa_has, f_5_14, ml_5_24, w_Cu_u16, kb_64, ks_128, P_h1x', C_h1x', s_ne _ _ hoc, s_ne _ _ hoc.symm, e_Cu]
      refine q_c0 (Nat.le_refl _) (Nat.le_refl _) ?_
      generalize hh_h1xx : q_set (q_set h1x cu _) o _ = h1xx
      have t_h1xx : q_2 h h1xx o cu := j1 (j2 t_h1x rfl) hh_h1xx.symm
      have P_h1xx : h1xx o = some (e_Pa cu (nI fl) ch p0 q0 (0 : Int32).toInt16.toInt32 (0 : Int32).toInt16.toInt32 (iI 0) (iI 16384)) := by rw [← hh_h1xx]; exact s_set _ _ _
      have C_h1xx : q_Cu h1xx cu f (p) e 1 := by unfold q_Cu; rw [← hh_h1xx, s_ne _ _ hoc.symm, s_set]
      have P_h1xx' := P_h1xx
      unfold e_Pa at P_h1xx'
      have C_h1xx' : h1xx cu = some (.inr (2, [.ref f, .int (nI (p)), .int (nI e), .int 1])) := C_h1xx
      refine c_Cu_u16 C_h1xx (gB _ t_h1xx) he (by omega) (fun z => absurd z (by omega)) (fun z => ?_)
      simp -implicitDefEqProofs only [s_go, s_nil, s_cons, q_ins, s_op, s_i, s_j, s_a, s_v, s_li, s_lj, s_la, s_liO, s_ljO, s_laO, q_get, q_p1, q_p2, s_n2i, s_n2r, s_n2l, s_n2n, q_pad, q_ar, s_ob, s_obO, q_nth, s_ri, s_riO, s_rb, s_rbO, s_rzO, s_rl, s_rlO, s_rq, s_rqO, s_ry, s_ryO, s_dn, s_tl, s_tn, s_ap, s_an, s_ci, s_cr, s_ni, s_n0, s_n1, q_ags, q_cat, List.contains_nil, List.contains_cons, Nat.reduceBEq, Bool.or_false, Bool.false_or, Bool.true_or, Bool.false_eq_true, ↓reduceIte, Nat.le_refl, Nat.zero_le, true_and, and_true, Nat.reduceLeDiff, Nat.reduceAdd, Nat.add_zero, Nat.zero_add, List.length_cons, List.length_nil, List.set_cons_zero, List.set_cons_succ, Nat.reduceLT, s_fi, s_fl, s_fo, s_fa, s_f0, s_f1, s_set, s_ss, lg_cmp_ge, lg_cmp_le, lg_cmp_gt, lg_cmp_lt, lg_cmp_eq, s_brT, s_brF, s_10, w_Pa_readFactors, r_Pa_readFactors, l_Pa_readFactors_0, l_Pa_readFactors_56, l_Pa_readFactors_92, l_Pa_readFactors_150, ks_16384, f_5_60, ty_5_5, kc_0, f_5_63, ty_5_6, f_5_66, ty_5_7, f_5_69, ty_5_8, kb_8, ml_5_53, w_Pa_has, f_5_14, ml_5_24, w_Cu_u16, kb_64, ks_128, P_h1xx', C_h1xx', s_ne _ _ hoc, s_ne _ _ hoc.symm, e_Cu]
      refine q_c0 (Nat.le_refl _) (Nat.le_refl _) ?_
      generalize hh_h1xxx : q_set (q_set h1xx cu _) o _ = h1xxx
      have t_h1xxx : q_2 h h1xxx o cu := j1 (j2 t_h1xx rfl) hh_h1xxx.symm
      have P_h1xxx : h1xxx o = some (e_Pa cu (nI fl) ch p0 q0 (0 : Int32).toInt16.toInt32 (0 : Int32).toInt16.toInt32 (0 : Int32).toInt16.toInt32 (iI 16384)) := by rw [← hh_h1xxx]; exact s_set _ _ _
      have C_h1xxx : q_Cu h1xxx cu f (p) e 1 := by unfold q_Cu; rw [← hh_h1xxx, s_ne _ _ hoc.symm, s_set]
      have P_h1xxx' := P_h1xxx
      unfold e_Pa at P_h1xxx'
      have C_h1xxx' : h1xxx cu = some (.inr (2, [.ref f, .int (nI (p)), .int (nI e), .int 1])) := C_h1xxx
      refine c_Cu_u16 C_h1xxx (gB _ t_h1xxx) he (by omega) (fun z => absurd z (by omega)) (fun z => ?_)
      simp -implicitDefEqProofs only [s_go, s_nil, s_cons, q_ins, s_op, s_i, s_j, s_a, s_v, s_li, s_lj, s_la, s_liO, s_ljO, s_laO, q_get, q_p1, q_p2, s_n2i, s_n2r, s_n2l, s_n2n, q_pad, q_ar, s_ob, s_obO, q_nth, s_ri, s_riO, s_rb, s_rbO, s_rzO, s_rl, s_rlO, s_rq, s_rqO, s_ry, s_ryO, s_dn, s_tl, s_tn, s_ap, s_an, s_ci, s_cr, s_ni, s_n0, s_n1, q_ags, q_cat, List.contains_nil, List.contains_cons, Nat.reduceBEq, Bool.or_false, Bool.false_or, Bool.true_or, Bool.false_eq_true, ↓reduceIte, Nat.le_refl, Nat.zero_le, true_and, and_true, Nat.reduceLeDiff, Nat.reduceAdd, Nat.add_zero, Nat.zero_add, List.length_cons, List.length_nil, List.set_cons_zero, List.set_cons_succ, Nat.reduceLT, s_fi, s_fl, s_fo, s_fa, s_f0, s_f1, s_set, s_ss, lg_cmp_ge, lg_cmp_le, lg_cmp_gt, lg_cmp_lt, lg_cmp_eq, s_brT, s_brF, s_10, w_Pa_readFactors, r_Pa_readFactors, l_Pa_readFactors_0, l_Pa_readFactors_56, l_Pa_readFactors_92, l_Pa_readFactors_150, ks_16384, f_5_60, ty_5_5, kc_0, f_5_63, ty_5_6, f_5_66, ty_5_7, f_5_69, ty_5_8, kb_8, ml_5_53, w_Pa_has, f_5_14, ml_5_24, w_Cu_u16, kb_64, ks_128, P_h1xxx', C_h1xxx', s_ne _ _ hoc, s_ne _ _ hoc.symm, e_Cu]
      refine q2 (by omega) _ _ _ _ _ (p) (j1 (j2 t_h1xxx rfl) rfl) (s_set _ _ _) ?_
      unfold q_Cu; rw [s_ne _ _ hoc.symm, s_set]
  · rw [if_neg b7] at q1 q2
    simp only [if_neg b7] at q1
    simp -implicitDefEqProofs only [s_go, s_nil, s_cons, q_ins, s_op, s_i, s_j, s_a, s_v, s_li, s_lj, s_la, s_liO, s_ljO, s_laO, q_get, q_p1, q_p2, s_n2i, s_n2r, s_n2l, s_n2n, q_pad, q_ar, s_ob, s_obO, q_nth, s_ri, s_riO, s_rb, s_rbO, s_rzO, s_rl, s_rlO, s_rq, s_rqO, s_ry, s_ryO, s_dn, s_tl, s_tn, s_ap, s_an, s_ci, s_cr, s_ni, s_n0, s_n1, q_ags, q_cat, List.contains_nil, List.contains_cons, Nat.reduceBEq, Bool.or_false, Bool.false_or, Bool.true_or, Bool.false_eq_true, ↓reduceIte, Nat.le_refl, Nat.zero_le, true_and, and_true, Nat.reduceLeDiff, Nat.reduceAdd, Nat.add_zero, Nat.zero_add, List.length_cons, List.length_nil, List.set_cons_zero, List.set_cons_succ, Nat.reduceLT, s_fi, s_fl, s_fo, s_fa, s_f0, s_f1, s_set, s_ss, lg_cmp_ge, lg_cmp_le, lg_cmp_gt, lg_cmp_lt, lg_cmp_eq, s_brT, s_brF, s_10, w_Pa_readFactors, r_Pa_readFactors, l_Pa_readFactors_0, l_Pa_readFactors_56, l_Pa_readFactors_92, l_Pa_readFactors_150, ks_16384, f_5_60, ty_5_5, kc_0, f_5_63, ty_5_6, f_5_66, ty_5_7, f_5_69, ty_5_8, kb_8, ml_5_53, w_Pa_has, f_5_14, ml_5_24, w_Cu_u16, kb_64, ks_128, P1', C1']
    exact q1 (by omega) _ t1 P1 C1
end
section
/-! Part.isRead -/
def q_1 (h h' : q_H) (u : Nat) : Prop := ∀ b, b ≠ u → h' b = h b
theorem c_Cu_u16X {G : q_G} {l : Launch} {d a f row m n sz p e : Nat} {ro : Int32} {g : Nat → Int32} {F : Nat → Nat} {h : q_H} {Q : q_P} (hC : q_Cu h a f p e ro) (hB : q_By h f row m g sz F) (he : e ≤ sz) (hpe : p ≤ e)
    (k : ∀ h' v p' ro', q_1 h h' a → q_Cu h' a f p' e ro' → ((p + 2 ≤ e ∧ v = w2 F p ∧ p' = p + 2 ∧ ro' = ro) ∨ (e < p + 2 ∧ v = 0 ∧ p' = p ∧ ro' = 1)) → Q (some (.int (nI v))) h' n) : q_Call G l M_Cu_u16 d 0 0 [.ref a] h n Q := by
  refine c_Cu_u16 hC hB he hpe (fun hl => k _ (w2 F p) (p + 2) ro (fun b hb => s_ne _ _ hb) (s_set _ _ _) (Or.inl ⟨hl, rfl, rfl, rfl⟩)) (fun hl => k _ 0 p 1 (fun b hb => s_ne _ _ hb) (s_set _ _ _) (Or.inr ⟨hl, rfl, rfl, rfl⟩))
theorem c_Cu_u8X {G : q_G} {l : Launch} {d a f row m n sz p e : Nat} {ro : Int32} {g : Nat → Int32} {F : Nat → Nat} {h : q_H} {Q : q_P} (hC : q_Cu h a f p e ro) (hB : q_By h f row m g sz F) (he : e ≤ sz) (hpe : p ≤ e)
    (k : ∀ h' v p' ro', q_1 h h' a → q_Cu h' a f p' e ro' → ((p + 1 ≤ e ∧ v = F p ∧ p' = p + 1 ∧ ro' = ro) ∨ (e < p + 1 ∧ v = 0 ∧ p' = p ∧ ro' = 1)) → Q (some (.int (nI v))) h' n) : q_Call G l M_Cu_u8 d 0 0 [.ref a] h n Q := by
  refine c_Cu_u8 hC hB he hpe (fun hl => k _ (F p) (p + 1) ro (fun b hb => s_ne _ _ hb) (s_set _ _ _) (Or.inl ⟨hl, rfl, rfl, rfl⟩)) (fun hl => k _ 0 p 1 (fun b hb => s_ne _ _ hb) (s_set _ _ _) (Or.inr ⟨by omega, rfl, rfl, rfl⟩))
theorem c_Pa_numberX {G : q_G} {l : Launch} {dd o cu f row m n sz p e fl : Nat} {ro ch p0 q0 a b c d : Int32} {g : Nat → Int32} {F : Nat → Nat} {h : q_H} {Q : q_P} (hP : h o = some (e_Pa cu (nI fl) ch p0 q0 a b c d)) (hf : fl < 65536) (hC : q_Cu h cu f p e ro) (hB : q_By h f row m g sz F) (he : e ≤ sz) (hpe : p ≤ e)
    (k : ∀ h' x p' ro', q_1 h h' cu → q_Cu h' cu f p' e ro' → ((p + NW fl ≤ e ∧ x = iI (NV F fl p) ∧ p' = p + NW fl ∧ ro' = ro) ∨ (e < p + NW fl ∧ x = 0 ∧ p' = p ∧ ro' = 1)) → Q (some (.int x)) h' n) : q_Call G l M_Pa_number (dd + 1) 0 0 [.ref o] h n Q := by
  refine c_Pa_number hP hf hC hB he hpe (fun hl => k _ (iI (NV F fl p)) (p + NW fl) ro (fun b hb => s_ne _ _ hb) (s_set _ _ _) (Or.inl ⟨hl, rfl, rfl, rfl⟩)) (fun hl => k _ 0 p 1 (fun b hb => s_ne _ _ hb) (s_set _ _ _) (Or.inr ⟨hl, rfl, rfl, rfl⟩))
theorem c_Pa_readFactorsX {G : q_G} {l : Launch} {dd o cu f row m n sz p e fl : Nat} {ro ch p0 q0 a b c d : Int32} {g : Nat → Int32} {F : Nat → Nat} {h : q_H} {Q : q_P} (hP : h o = some (e_Pa cu (nI fl) ch p0 q0 a b c d)) (hf : fl < 65536) (hC : q_Cu h cu f p e ro) (hB : q_By h f row m g sz F) (he : e ≤ sz) (hpe : p ≤ e)
    (k : ∀ h' a b c d p' ro', q_2 h h' o cu → h' o = some (e_Pa cu (nI fl) ch p0 q0 a b c d) → q_Cu h' cu f p' e ro' → ((p + 2 * NF fl ≤ e ∧ a = iI (FA F fl p) ∧ b = iI (FB F fl p) ∧ c = iI (FC F fl p) ∧ d = iI (FD F fl p) ∧ p' = p + 2 * NF fl ∧ ro' = ro) ∨ (e < p + 2 * NF fl ∧ ro' = 1)) → Q none h' n) : q_Call G l M_Pa_readFactors (dd + 1) 0 0 [.ref o] h n Q := by
  refine c_Pa_readFactors hP hf hC hB he hpe (fun hl h' h1 h2 h3 => k h' _ _ _ _ _ _ h1 h2 h3 (Or.inl ⟨hl, rfl, rfl, rfl, rfl, rfl, rfl⟩)) (fun hl h' a b c d p' h1 h2 h3 => k h' _ _ _ _ _ _ h1 h2 h3 (Or.inr ⟨hl, rfl⟩))
def q_us (x s : Int32) : Int32 := (x.toUInt32 >>> (s.toUInt32 &&& Int32.toUInt32 31)).toInt32
def q_b0 (x : Int32) : Int32 := x - (q_us x 1 &&& 1431655765)
def q_b1 (x : Int32) : Int32 := (x &&& 858993459) + (q_us x 2 &&& 858993459)
def q_b2 (x : Int32) : Int32 := (x + q_us x 4) &&& 252645135
def q_b3 (x : Int32) : Int32 := x + q_us x 8
def q_b4 (x : Int32) : Int32 := x + q_us x 16
def q_bc (x : Int32) : Int32 := q_b4 (q_b3 (q_b2 (q_b1 (q_b0 x)))) &&& 63
set_option maxRecDepth 100000 in
set_option maxHeartbeats 4000000 in
theorem c_In_bitCount {G : q_G} {l : Launch} {d n : Nat} {x : Int32} {h : q_H} {Q : q_P} (hq : Q (some (.int (q_bc x))) h n) : q_Call G l M_In_bitCount d 0 0 [.int x] h n Q := by
  refine q_in u_In_bitCount (by rw [L_In_bitCount]; exact Nat.le_of_ble_eq_true rfl) ?_
  rw [L_In_bitCount]
  refine q_at o_In_bitCount [] 20 l_In_bitCount_0 ?_
  simp -implicitDefEqProofs only [s_go, s_nil, s_cons, q_ins, s_op, s_i, s_j, s_a, s_v, s_li, s_lj, s_la, s_liO, s_ljO, s_laO, q_get, q_p1, q_p2, s_n2i, s_n2r, s_n2l, s_n2n, q_pad, q_ar, s_ob, s_obO, q_nth, s_ri, s_riO, s_rb, s_rbO, s_rzO, s_rl, s_rlO, s_rq, s_rqO, s_ry, s_ryO, s_dn, s_tl, s_tn, s_ap, s_an, s_ci, s_cr, s_ni, s_n0, s_n1, q_ags, q_cat, List.contains_nil, List.contains_cons, Nat.reduceBEq, Bool.or_false, Bool.false_or, Bool.true_or, Bool.false_eq_true, ↓reduceIte, Nat.le_refl, Nat.zero_le, true_and, and_true, Nat.reduceLeDiff, Nat.reduceAdd, Nat.add_zero, Nat.zero_add, List.length_cons, List.length_nil, List.set_cons_zero, List.set_cons_succ, Nat.reduceLT, s_fi, s_fl, s_fo, s_fa, s_f0, s_f1, s_set, s_ss, lg_cmp_ge, lg_cmp_le, lg_cmp_gt, lg_cmp_lt, lg_cmp_eq, s_brT, s_brF, s_10, w_In_bitCount, r_In_bitCount, l_In_bitCount_0, kc_1, ki_12_265, ki_12_266, kc_2, kc_4, ki_12_267, kb_8, kb_16, kb_63]
  exact hq
/-- how many of the bits 3, 6, 7 -/
def BC (fl : Nat) : Nat := fl / 8 % 2 + fl / 64 % 2 + fl / 128 % 2
theorem q_bc_ok {fl : Nat} (hf : fl < 65536) : (1 < q_bc (nI fl &&& 200)) ↔ 1 < BC fl := by
  have h0 : ∀ v : Fin 256, (1 < q_bc (nI (v.val &&& 200))) ↔ 1 < BC v.val := by decide +kernel
  have h1 : fl &&& 200 = fl % 256 &&& 200 := by
    have := Nat.and_mod_two_pow (a := fl) (b := 200) (n := 8)
    rw [show (2 : Nat) ^ 8 = 256 from rfl, show 200 % 256 = 200 from rfl, Nat.mod_eq_of_lt (Nat.lt_of_le_of_lt Nat.and_le_right (by omega))] at this
    exact this
  have h2 := h0 ⟨fl % 256, Nat.mod_lt _ (by omega)⟩
  rw [show (200 : Int32) = nI 200 from rfl, q_nand, h1, h2]
  unfold BC
  dsimp only
  rw [show fl % 256 / 8 % 2 = fl / 8 % 2 by omega, show fl % 256 / 64 % 2 = fl / 64 % 2 by omega, show fl % 256 / 128 % 2 = fl / 128 % 2 by omega]
/-- where a part's pieces lie -/
def PA1 (p : Nat) : Nat := p + 4
def PA2 (F : Nat → Nat) (p : Nat) : Nat := p + 4 + NW (w2 F p)
def PA3 (F : Nat → Nat) (p : Nat) : Nat := p + 4 + 2 * NW (w2 F p)
def PA4 (F : Nat → Nat) (p : Nat) : Nat := p + 4 + 2 * NW (w2 F p) + 2 * NF (w2 F p)
set_option maxRecDepth 100000 in
set_option maxHeartbeats 4000000 in
theorem c_Pa_isRead {G : q_G} {l : Launch} {dd o cu f row m n sz p e : Nat} {fl0 ch0 p0 q0 a0 b0 c0 d0 : Int32} {g : Nat → Int32} {F : Nat → Nat} {h : q_H} {Q : q_P} (hP : h o = some (e_Pa cu fl0 ch0 p0 q0 a0 b0 c0 d0)) (hC : q_Cu h cu f p e 0) (hB : q_By h f row m g sz F) (he : e ≤ sz) (hpe : p ≤ e)
    (q1 : PA4 F p ≤ e → BC (w2 F p) ≤ 1 → ∀ h', q_2 h h' o cu → h' o = some (e_Pa cu (nI (w2 F p)) (nI (w2 F (p + 2))) (iI (NV F (w2 F p) (PA1 p))) (iI (NV F (w2 F p) (PA2 F p))) (iI (FA F (w2 F p) (PA3 F p))) (iI (FB F (w2 F p) (PA3 F p))) (iI (FC F (w2 F p) (PA3 F p))) (iI (FD F (w2 F p) (PA3 F p)))) → q_Cu h' cu f (PA4 F p) e 0 → Q (some (.int 1)) h' n)
    (q2 : (e < PA4 F p ∨ 1 < BC (w2 F p)) → ∀ h' fl ch p1 q1 a b c d p' ro, q_2 h h' o cu → h' o = some (e_Pa cu fl ch p1 q1 a b c d) → q_Cu h' cu f p' e ro → (ro = 0 ∨ ro = 1) → Q (some (.int 0)) h' n) : q_Call G l M_Pa_isRead (dd + 2) 0 0 [.ref o] h n Q := by
  have hF := hB.2.2.2.2.2.2
  have hoc : o ≠ cu := q_cuP hC hP e_Pa_nc
  have hof : f ≠ o := fun q => by have := hB.1; rw [q, hP] at this; cases this
  have hor : row ≠ o := fun q => by have := hB.2.1; rw [q, hP] at this; cases this
  have hcf : f ≠ cu := fun q => by have := hB.1; rw [q] at this; unfold q_Cu at hC; rw [hC] at this; cases this
  have hcr : row ≠ cu := fun q => by have := hB.2.1; rw [q] at this; unfold q_Cu at hC; rw [hC] at this; cases this
  have gB : ∀ h', q_2 h h' o cu → q_By h' f row m g sz F := fun h' hh => ⟨(hh f hof hcf).trans hB.1, (hh row hor hcr).trans hB.2.1, hB.2.2⟩
  have j2 : ∀ {h1 h2 : q_H}, q_2 h h1 o cu → q_1 h1 h2 cu → q_2 h h2 o cu := fun hh e b b1 b2 => (e b b2).trans (hh b b1 b2)
  have j1 : ∀ {h1 h2 : q_H} {x : q_E}, q_2 h h1 o cu → h2 = q_set h1 o x → q_2 h h2 o cu := fun hh e b b1 b2 => by subst e; rw [s_ne _ _ b1]; exact hh b b1 b2
  have j3 : ∀ {h1 h2 : q_H}, q_2 h h1 o cu → q_2 h1 h2 o cu → q_2 h h2 o cu := fun hh e b b1 b2 => (e b b1 b2).trans (hh b b1 b2)
  have r0 : q_2 h h o cu := fun b _ _ => rfl
  have hP' := hP
  unfold e_Pa at hP'
  have hC' : h cu = some (.inr (2, [.ref f, .int (nI p), .int (nI e), .int 0])) := hC
  refine q_in u_Pa_isRead (by rw [L_Pa_isRead]; exact Nat.le_of_ble_eq_true rfl) ?_
  rw [L_Pa_isRead]
  refine q_at o_Pa_isRead [] 20 l_Pa_isRead_0 ?_
  simp -implicitDefEqProofs only [s_go, s_nil, s_cons, q_ins, s_op, s_i, s_j, s_a, s_v, s_li, s_lj, s_la, s_liO, s_ljO, s_laO, q_get, q_p1, q_p2, s_n2i, s_n2r, s_n2l, s_n2n, q_pad, q_ar, s_ob, s_obO, q_nth, s_ri, s_riO, s_rb, s_rbO, s_rzO, s_rl, s_rlO, s_rq, s_rqO, s_ry, s_ryO, s_dn, s_tl, s_tn, s_ap, s_an, s_ci, s_cr, s_ni, s_n0, s_n1, q_ags, q_cat, List.contains_nil, List.contains_cons, Nat.reduceBEq, Bool.or_false, Bool.false_or, Bool.true_or, Bool.false_eq_true, ↓reduceIte, Nat.le_refl, Nat.zero_le, true_and, and_true, Nat.reduceLeDiff, Nat.reduceAdd, Nat.add_zero, Nat.zero_add, List.length_cons, List.length_nil, List.set_cons_zero, List.set_cons_succ, Nat.reduceLT, s_fi, s_fl, s_fo, s_fa, s_f0, s_f1, s_set, s_ss, lg_cmp_ge, lg_cmp_le, lg_cmp_gt, lg_cmp_lt, lg_cmp_eq, s_brT, s_brF, s_10, w_Pa_isRead, r_Pa_isRead, l_Pa_isRead_0, l_Pa_isRead_71, l_Pa_isRead_72, f_5_14, ml_5_24, w_Cu_u16, f_5_20, ty_5_1, f_5_28, ty_5_2, ml_5_31, w_Pa_number, f_5_34, ty_5_3, f_5_37, ty_5_4, ml_5_40, w_Pa_readFactors, f_5_43, ks_200, ml_5_47, w_In_bitCount, q_ac_no_5_47, q_mm_no_5_47, kc_1, kc_0, hP', hC']
  refine q_c0 (Nat.le_refl _) (Nat.le_refl _) ?_
  refine c_Cu_u16X hC hB he hpe (fun h1 v1 p1 r1 t1 C1 R1 => ?_)
  have P1 : h1 o = _ := (t1 o hoc).trans hP'
  have t1 := j2 r0 t1
  have C1' : h1 cu = some (.inr (2, [.ref f, .int (nI p1), .int (nI e), .int r1])) := C1
  simp -implicitDefEqProofs only [s_go, s_nil, s_cons, q_ins, s_op, s_i, s_j, s_a, s_v, s_li, s_lj, s_la, s_liO, s_ljO, s_laO, q_get, q_p1, q_p2, s_n2i, s_n2r, s_n2l, s_n2n, q_pad, q_ar, s_ob, s_obO, q_nth, s_ri, s_riO, s_rb, s_rbO, s_rzO, s_rl, s_rlO, s_rq, s_rqO, s_ry, s_ryO, s_dn, s_tl, s_tn, s_ap, s_an, s_ci, s_cr, s_ni, s_n0, s_n1, q_ags, q_cat, List.contains_nil, List.contains_cons, Nat.reduceBEq, Bool.or_false, Bool.false_or, Bool.true_or, Bool.false_eq_true, ↓reduceIte, Nat.le_refl, Nat.zero_le, true_and, and_true, Nat.reduceLeDiff, Nat.reduceAdd, Nat.add_zero, Nat.zero_add, List.length_cons, List.length_nil, List.set_cons_zero, List.set_cons_succ, Nat.reduceLT, s_fi, s_fl, s_fo, s_fa, s_f0, s_f1, s_set, s_ss, lg_cmp_ge, lg_cmp_le, lg_cmp_gt, lg_cmp_lt, lg_cmp_eq, s_brT, s_brF, s_10, w_Pa_isRead, r_Pa_isRead, l_Pa_isRead_0, l_Pa_isRead_71, l_Pa_isRead_72, f_5_14, ml_5_24, w_Cu_u16, f_5_20, ty_5_1, f_5_28, ty_5_2, ml_5_31, w_Pa_number, f_5_34, ty_5_3, f_5_37, ty_5_4, ml_5_40, w_Pa_readFactors, f_5_43, ks_200, ml_5_47, w_In_bitCount, q_ac_no_5_47, q_mm_no_5_47, kc_1, kc_0, P1, C1', s_ne _ _ hoc, s_ne _ _ hoc.symm]
  refine q_c0 (Nat.le_refl _) (Nat.le_refl _) ?_
  generalize hh2 : q_set h1 o _ = h2
  have t2 : q_2 h h2 o cu := j1 t1 hh2.symm
  have P2 : h2 o = some (e_Pa cu (nI v1) ch0 p0 q0 a0 b0 c0 d0) := by rw [← hh2]; exact s_set _ _ _
  have C2 : q_Cu h2 cu f p1 e r1 := by unfold q_Cu; rw [← hh2, s_ne _ _ hoc.symm]; exact C1
  have hv1 : v1 < 65536 := by have := w2_lt hF p; omega
  refine c_Cu_u16X C2 (gB _ t2) he (by omega) (fun h3 v2 p2 r2 t3 C3 R2 => ?_)
  have P3 : h3 o = some (.inr (5, [.ref cu, .int (nI v1), .int ch0, .int p0, .int q0, .int a0, .int b0, .int c0, .int d0])) := (t3 o hoc).trans P2
  have t3 := j2 t2 t3
  have C3' : h3 cu = some (.inr (2, [.ref f, .int (nI p2), .int (nI e), .int r2])) := C3
  simp -implicitDefEqProofs only [s_go, s_nil, s_cons, q_ins, s_op, s_i, s_j, s_a, s_v, s_li, s_lj, s_la, s_liO, s_ljO, s_laO, q_get, q_p1, q_p2, s_n2i, s_n2r, s_n2l, s_n2n, q_pad, q_ar, s_ob, s_obO, q_nth, s_ri, s_riO, s_rb, s_rbO, s_rzO, s_rl, s_rlO, s_rq, s_rqO, s_ry, s_ryO, s_dn, s_tl, s_tn, s_ap, s_an, s_ci, s_cr, s_ni, s_n0, s_n1, q_ags, q_cat, List.contains_nil, List.contains_cons, Nat.reduceBEq, Bool.or_false, Bool.false_or, Bool.true_or, Bool.false_eq_true, ↓reduceIte, Nat.le_refl, Nat.zero_le, true_and, and_true, Nat.reduceLeDiff, Nat.reduceAdd, Nat.add_zero, Nat.zero_add, List.length_cons, List.length_nil, List.set_cons_zero, List.set_cons_succ, Nat.reduceLT, s_fi, s_fl, s_fo, s_fa, s_f0, s_f1, s_set, s_ss, lg_cmp_ge, lg_cmp_le, lg_cmp_gt, lg_cmp_lt, lg_cmp_eq, s_brT, s_brF, s_10, w_Pa_isRead, r_Pa_isRead, l_Pa_isRead_0, l_Pa_isRead_71, l_Pa_isRead_72, f_5_14, ml_5_24, w_Cu_u16, f_5_20, ty_5_1, f_5_28, ty_5_2, ml_5_31, w_Pa_number, f_5_34, ty_5_3, f_5_37, ty_5_4, ml_5_40, w_Pa_readFactors, f_5_43, ks_200, ml_5_47, w_In_bitCount, q_ac_no_5_47, q_mm_no_5_47, kc_1, kc_0, P3, C3', s_ne _ _ hoc, s_ne _ _ hoc.symm]
  refine q_c0 (Nat.le_refl _) (Nat.le_refl _) ?_
  generalize hh4 : q_set h3 o _ = h4
  have t4 : q_2 h h4 o cu := j1 t3 hh4.symm
  have P4 : h4 o = some (e_Pa cu (nI v1) (nI v2) p0 q0 a0 b0 c0 d0) := by rw [← hh4]; exact s_set _ _ _
  have C4 : q_Cu h4 cu f p2 e r2 := by unfold q_Cu; rw [← hh4, s_ne _ _ hoc.symm]; exact C3
  refine c_Pa_numberX P4 hv1 C4 (gB _ t4) he (by omega) (fun h5 x3 p3 r3 t5 C5 R3 => ?_)
  have P5 : h5 o = some (.inr (5, [.ref cu, .int (nI v1), .int (nI v2), .int p0, .int q0, .int a0, .int b0, .int c0, .int d0])) := (t5 o hoc).trans P4
  have t5 := j2 t4 t5
  have C5' : h5 cu = some (.inr (2, [.ref f, .int (nI p3), .int (nI e), .int r3])) := C5
  simp -implicitDefEqProofs only [s_go, s_nil, s_cons, q_ins, s_op, s_i, s_j, s_a, s_v, s_li, s_lj, s_la, s_liO, s_ljO, s_laO, q_get, q_p1, q_p2, s_n2i, s_n2r, s_n2l, s_n2n, q_pad, q_ar, s_ob, s_obO, q_nth, s_ri, s_riO, s_rb, s_rbO, s_rzO, s_rl, s_rlO, s_rq, s_rqO, s_ry, s_ryO, s_dn, s_tl, s_tn, s_ap, s_an, s_ci, s_cr, s_ni, s_n0, s_n1, q_ags, q_cat, List.contains_nil, List.contains_cons, Nat.reduceBEq, Bool.or_false, Bool.false_or, Bool.true_or, Bool.false_eq_true, ↓reduceIte, Nat.le_refl, Nat.zero_le, true_and, and_true, Nat.reduceLeDiff, Nat.reduceAdd, Nat.add_zero, Nat.zero_add, List.length_cons, List.length_nil, List.set_cons_zero, List.set_cons_succ, Nat.reduceLT, s_fi, s_fl, s_fo, s_fa, s_f0, s_f1, s_set, s_ss, lg_cmp_ge, lg_cmp_le, lg_cmp_gt, lg_cmp_lt, lg_cmp_eq, s_brT, s_brF, s_10, w_Pa_isRead, r_Pa_isRead, l_Pa_isRead_0, l_Pa_isRead_71, l_Pa_isRead_72, f_5_14, ml_5_24, w_Cu_u16, f_5_20, ty_5_1, f_5_28, ty_5_2, ml_5_31, w_Pa_number, f_5_34, ty_5_3, f_5_37, ty_5_4, ml_5_40, w_Pa_readFactors, f_5_43, ks_200, ml_5_47, w_In_bitCount, q_ac_no_5_47, q_mm_no_5_47, kc_1, kc_0, P5, C5', s_ne _ _ hoc, s_ne _ _ hoc.symm]
  refine q_c0 (Nat.le_refl _) (Nat.le_refl _) ?_
  generalize hh6 : q_set h5 o _ = h6
  have t6 : q_2 h h6 o cu := j1 t5 hh6.symm
  have P6 : h6 o = some (e_Pa cu (nI v1) (nI v2) x3 q0 a0 b0 c0 d0) := by rw [← hh6]; exact s_set _ _ _
  have C6 : q_Cu h6 cu f p3 e r3 := by unfold q_Cu; rw [← hh6, s_ne _ _ hoc.symm]; exact C5
  refine c_Pa_numberX P6 hv1 C6 (gB _ t6) he (by omega) (fun h7 x4 p4 r4 t7 C7 R4 => ?_)
  have P7 : h7 o = some (.inr (5, [.ref cu, .int (nI v1), .int (nI v2), .int x3, .int q0, .int a0, .int b0, .int c0, .int d0])) := (t7 o hoc).trans P6
  have t7 := j2 t6 t7
  have C7' : h7 cu = some (.inr (2, [.ref f, .int (nI p4), .int (nI e), .int r4])) := C7
  simp -implicitDefEqProofs only [s_go, s_nil, s_cons, q_ins, s_op, s_i, s_j, s_a, s_v, s_li, s_lj, s_la, s_liO, s_ljO, s_laO, q_get, q_p1, q_p2, s_n2i, s_n2r, s_n2l, s_n2n, q_pad, q_ar, s_ob, s_obO, q_nth, s_ri, s_riO, s_rb, s_rbO, s_rzO, s_rl, s_rlO, s_rq, s_rqO, s_ry, s_ryO, s_dn, s_tl, s_tn, s_ap, s_an, s_ci, s_cr, s_ni, s_n0, s_n1, q_ags, q_cat, List.contains_nil, List.contains_cons, Nat.reduceBEq, Bool.or_false, Bool.false_or, Bool.true_or, Bool.false_eq_true, ↓reduceIte, Nat.le_refl, Nat.zero_le, true_and, and_true, Nat.reduceLeDiff, Nat.reduceAdd, Nat.add_zero, Nat.zero_add, List.length_cons, List.length_nil, List.set_cons_zero, List.set_cons_succ, Nat.reduceLT, s_fi, s_fl, s_fo, s_fa, s_f0, s_f1, s_set, s_ss, lg_cmp_ge, lg_cmp_le, lg_cmp_gt, lg_cmp_lt, lg_cmp_eq, s_brT, s_brF, s_10, w_Pa_isRead, r_Pa_isRead, l_Pa_isRead_0, l_Pa_isRead_71, l_Pa_isRead_72, f_5_14, ml_5_24, w_Cu_u16, f_5_20, ty_5_1, f_5_28, ty_5_2, ml_5_31, w_Pa_number, f_5_34, ty_5_3, f_5_37, ty_5_4, ml_5_40, w_Pa_readFactors, f_5_43, ks_200, ml_5_47, w_In_bitCount, q_ac_no_5_47, q_mm_no_5_47, kc_1, kc_0, P7, C7', s_ne _ _ hoc, s_ne _ _ hoc.symm]
  refine q_c0 (Nat.le_refl _) (Nat.le_refl _) ?_
  generalize hh8 : q_set h7 o _ = h8
  have t8 : q_2 h h8 o cu := j1 t7 hh8.symm
  have P8 : h8 o = some (e_Pa cu (nI v1) (nI v2) x3 x4 a0 b0 c0 d0) := by rw [← hh8]; exact s_set _ _ _
  have C8 : q_Cu h8 cu f p4 e r4 := by unfold q_Cu; rw [← hh8, s_ne _ _ hoc.symm]; exact C7
  refine c_Pa_readFactorsX P8 hv1 C8 (gB _ t8) he (by omega) (fun h9 a b c d p5 r5 t9 P9 C9 R5 => ?_)
  have t9 := j3 t8 t9
  have P9' := P9
  unfold e_Pa at P9'
  have C9' : h9 cu = some (.inr (2, [.ref f, .int (nI p5), .int (nI e), .int r5])) := C9
  have hr : r5 = 0 ∨ r5 = 1 := by
    rcases R1 with ⟨-, -, -, z1⟩ | ⟨-, -, -, z1⟩ <;> rcases R2 with ⟨-, -, -, z2⟩ | ⟨-, -, -, z2⟩ <;> rcases R3 with ⟨-, -, -, z3⟩ | ⟨-, -, -, z3⟩ <;> rcases R4 with ⟨-, -, -, z4⟩ | ⟨-, -, -, z4⟩ <;> rcases R5 with ⟨-, -, -, -, -, -, z5⟩ | ⟨-, z5⟩ <;> simp [z1, z2, z3, z4, z5]
  have good : r5 = 0 → PA4 F p ≤ e ∧ v1 = w2 F p ∧ v2 = w2 F (p + 2) ∧ x3 = iI (NV F (w2 F p) (PA1 p)) ∧ x4 = iI (NV F (w2 F p) (PA2 F p)) ∧ a = iI (FA F (w2 F p) (PA3 F p)) ∧ b = iI (FB F (w2 F p) (PA3 F p)) ∧ c = iI (FC F (w2 F p) (PA3 F p)) ∧ d = iI (FD F (w2 F p) (PA3 F p)) ∧ p5 = PA4 F p := by
    intro h0
    rcases R5 with ⟨y5, f1, f2, f3, f4, f5, z5⟩ | ⟨-, z5⟩
    · rcases R4 with ⟨y4, x4e, p4e, z4⟩ | ⟨-, -, -, z4⟩
      · rcases R3 with ⟨y3, x3e, p3e, z3⟩ | ⟨-, -, -, z3⟩
        · rcases R2 with ⟨y2, v2e, p2e, z2⟩ | ⟨-, -, -, z2⟩
          · rcases R1 with ⟨y1, v1e, p1e, z1⟩ | ⟨-, -, -, z1⟩
            · subst v1e; subst p1e; subst v2e; subst p2e; subst p3e; subst p4e
              have e1 : p + 2 + 2 = PA1 p := rfl
              have e2 : p + 2 + 2 + NW (w2 F p) = PA2 F p := rfl
              have e3 : p + 2 + 2 + NW (w2 F p) + NW (w2 F p) = PA3 F p := by unfold PA3; omega
              rw [e3] at f1 f2 f3 f4 f5 y5
              rw [e2] at x4e
              rw [e1] at x3e
              refine ⟨?_, rfl, rfl, x3e, x4e, f1, f2, f3, f4, ?_⟩
              · unfold PA4; unfold PA3 at y5; exact y5
              · rw [f5]; rfl
            · exact absurd (h0.symm.trans (z5.trans (z4.trans (z3.trans (z2.trans z1))))) (by decide)
          · exact absurd (h0.symm.trans (z5.trans (z4.trans (z3.trans z2)))) (by decide)
        · exact absurd (h0.symm.trans (z5.trans (z4.trans z3))) (by decide)
      · exact absurd (h0.symm.trans (z5.trans z4)) (by decide)
    · exact absurd (h0.symm.trans z5) (by decide)
  have bad : ¬ r5 = 0 → e < PA4 F p := by
    intro h0
    rcases R1 with ⟨y1, v1e, p1e, z1⟩ | ⟨y1, -, -, -⟩
    · rcases R2 with ⟨y2, v2e, p2e, z2⟩ | ⟨y2, -, -, -⟩
      · rcases R3 with ⟨y3, -, p3e, z3⟩ | ⟨y3, -, -, -⟩
        · rcases R4 with ⟨y4, -, p4e, z4⟩ | ⟨y4, -, -, -⟩
          · rcases R5 with ⟨y5, -, -, -, -, -, z5⟩ | ⟨y5, -⟩
            · exact absurd (z5.trans (z4.trans (z3.trans (z2.trans z1)))) h0
            · subst v1e; unfold PA4; omega
          · subst v1e; unfold PA4; omega
        · subst v1e; unfold PA4; omega
      · unfold PA4; omega
    · unfold PA4; omega
  simp -implicitDefEqProofs only [s_go, s_nil, s_cons, q_ins, s_op, s_i, s_j, s_a, s_v, s_li, s_lj, s_la, s_liO, s_ljO, s_laO, q_get, q_p1, q_p2, s_n2i, s_n2r, s_n2l, s_n2n, q_pad, q_ar, s_ob, s_obO, q_nth, s_ri, s_riO, s_rb, s_rbO, s_rzO, s_rl, s_rlO, s_rq, s_rqO, s_ry, s_ryO, s_dn, s_tl, s_tn, s_ap, s_an, s_ci, s_cr, s_ni, s_n0, s_n1, q_ags, q_cat, List.contains_nil, List.contains_cons, Nat.reduceBEq, Bool.or_false, Bool.false_or, Bool.true_or, Bool.false_eq_true, ↓reduceIte, Nat.le_refl, Nat.zero_le, true_and, and_true, Nat.reduceLeDiff, Nat.reduceAdd, Nat.add_zero, Nat.zero_add, List.length_cons, List.length_nil, List.set_cons_zero, List.set_cons_succ, Nat.reduceLT, s_fi, s_fl, s_fo, s_fa, s_f0, s_f1, s_set, s_ss, lg_cmp_ge, lg_cmp_le, lg_cmp_gt, lg_cmp_lt, lg_cmp_eq, s_brT, s_brF, s_10, w_Pa_isRead, r_Pa_isRead, l_Pa_isRead_0, l_Pa_isRead_71, l_Pa_isRead_72, f_5_14, ml_5_24, w_Cu_u16, f_5_20, ty_5_1, f_5_28, ty_5_2, ml_5_31, w_Pa_number, f_5_34, ty_5_3, f_5_37, ty_5_4, ml_5_40, w_Pa_readFactors, f_5_43, ks_200, ml_5_47, w_In_bitCount, q_ac_no_5_47, q_mm_no_5_47, kc_1, kc_0, P9', C9']
  refine ⟨fun c0 => ?_, fun c0 => ?_⟩
  · obtain ⟨g0, g1, g2, g3, g4, g5, g6, g7, g8, g9⟩ := good c0
    subst g1
    refine q_c0 (Nat.le_refl _) (Nat.le_refl _) ?_
    refine c_In_bitCount ?_
    simp -implicitDefEqProofs only [s_go, s_nil, s_cons, q_ins, s_op, s_i, s_j, s_a, s_v, s_li, s_lj, s_la, s_liO, s_ljO, s_laO, q_get, q_p1, q_p2, s_n2i, s_n2r, s_n2l, s_n2n, q_pad, q_ar, s_ob, s_obO, q_nth, s_ri, s_riO, s_rb, s_rbO, s_rzO, s_rl, s_rlO, s_rq, s_rqO, s_ry, s_ryO, s_dn, s_tl, s_tn, s_ap, s_an, s_ci, s_cr, s_ni, s_n0, s_n1, q_ags, q_cat, List.contains_nil, List.contains_cons, Nat.reduceBEq, Bool.or_false, Bool.false_or, Bool.true_or, Bool.false_eq_true, ↓reduceIte, Nat.le_refl, Nat.zero_le, true_and, and_true, Nat.reduceLeDiff, Nat.reduceAdd, Nat.add_zero, Nat.zero_add, List.length_cons, List.length_nil, List.set_cons_zero, List.set_cons_succ, Nat.reduceLT, s_fi, s_fl, s_fo, s_fa, s_f0, s_f1, s_set, s_ss, lg_cmp_ge, lg_cmp_le, lg_cmp_gt, lg_cmp_lt, lg_cmp_eq, s_brT, s_brF, s_10, w_Pa_isRead, r_Pa_isRead, l_Pa_isRead_0, l_Pa_isRead_71, l_Pa_isRead_72, f_5_14, ml_5_24, w_Cu_u16, f_5_20, ty_5_1, f_5_28, ty_5_2, ml_5_31, w_Pa_number, f_5_34, ty_5_3, f_5_37, ty_5_4, ml_5_40, w_Pa_readFactors, f_5_43, ks_200, ml_5_47, w_In_bitCount, q_ac_no_5_47, q_mm_no_5_47, kc_1, kc_0, P9', C9', q_bc_ok hv1]
    refine ⟨fun k1 => ?_, fun k1 => ?_⟩
    · exact q2 (Or.inr k1) h9 _ _ _ _ _ _ _ _ _ _ t9 P9 C9 hr
    · refine q1 g0 (by omega) h9 t9 ?_ ?_
      · rw [P9, g2, g3, g4, g5, g6, g7, g8]
      · rw [← g9, ← c0]; exact C9
  · exact q2 (Or.inl (bad c0)) h9 _ _ _ _ _ _ _ _ _ _ t9 P9 C9 hr
end
section
/-! fewer locals; Font: the file -/
def q_le : q_L → q_L → Prop
  | [], _ => True
  | none :: r, _ :: r' => q_le r r'
  | some v :: r, o :: r' => o = some v ∧ q_le r r'
  | none :: r, [] => q_le r []
  | some _ :: _, [] => False
theorem q_le_g : ∀ (a b : q_L), q_le a b → ∀ i v, q_get a i = some v → q_get b i = some v
  | [], b, _, i, v, h => by simp [q_get] at h
  | none :: r, [], hh, 0, v, h => by simp [q_get] at h
  | none :: r, [], hh, i + 1, v, h => by simp only [q_get] at h; exact q_le_g r [] hh i v h
  | none :: r, _ :: r', hh, 0, v, h => by simp [q_get] at h
  | none :: r, _ :: r', hh, i + 1, v, h => by simp only [q_get] at h ⊢; exact q_le_g r r' hh i v h
  | some w :: r, o :: r', hh, 0, v, h => by simp only [q_get] at h ⊢; rw [hh.1]; exact h
  | some w :: r, o :: r', hh, i + 1, v, h => by simp only [q_get] at h ⊢; exact q_le_g r r' hh.2 i v h
  | some _ :: _, [], hh, i, v, h => hh.elim
theorem q_wk {G : q_G} {l : Launch} {M : q_MT} {d mc ms : Nat} {Q : q_P} {pc : Nat} {lv lv' : q_L} {st : List Value} {h : q_H} {n k sl : Nat} (hz : q_Z G l M d mc ms Q pc lv' st h n k sl) (hle : q_le lv' lv) : q_Z G l M d mc ms Q pc lv st h n k sl := by
  intro p e s m args below meth c H locs ls cx r hS hl
  refine hz p e s m args below meth c H locs ls cx r hS ⟨hl.1, hl.2.1, fun q hq => ?_⟩
  obtain ⟨j, h1, h2⟩ := (q_pr_m _ 0 q.1 q.2).mp hq
  exact hl.2.2 q ((q_pr_m _ 0 q.1 q.2).mpr ⟨j, h1, q_le_g _ _ hle j q.2 h2⟩)
def e_Fo (o : Nat) (em gl wd lp : Int32) : q_E := .inr (3, [.ref (o + 1), .ref (o + 3), .ref (o + 4), .ref (o + 5), .ref (o + 6), .ref (o + 7), .ref (o + 8), .ref (o + 9), .ref (o + 10), .ref (o + 11), .ref (o + 12), .int em, .int gl, .int wd, .int lp])
/-- the file's tables: how many, and of each name, sum, place, length -/
def NT (F : Nat → Nat) (sz : Nat) : Nat := U16 F 0 sz 4
def T_n (F : Nat → Nat) (sz k : Nat) : Nat := U32 F 0 sz (12 + 16 * k)
def T_s (F : Nat → Nat) (sz k : Nat) : Nat := U32 F 0 sz (12 + 16 * k + 4)
def T_p (F : Nat → Nat) (sz k : Nat) : Nat := U32 F 0 sz (12 + 16 * k + 8)
def T_l (F : Nat → Nat) (sz k : Nat) : Nat := U32 F 0 sz (12 + 16 * k + 12)
/-- the k-th entry is as it must be -/
def T_ok (F : Nat → Nat) (sz k : Nat) : Prop := (0 < k → T_n F sz (k - 1) < T_n F sz k) ∧ T_p F sz k + T_l F sz k ≤ sz
def FILE_ok (F : Nat → Nat) (sz : Nat) : Prop := U32 F 0 sz 0 = 65536 ∧ 1 ≤ NT F sz ∧ NT F sz ≤ 64 ∧ 12 + 16 * NT F sz ≤ sz ∧ ∀ k, k < NT F sz → T_ok F sz k
set_option maxRecDepth 100000 in
set_option maxHeartbeats 4000000 in
theorem c_Fo_tables {G : q_G} {l : Launch} {d o row m n sz : Nat} {em gl wd lp : Int32} {g : Nat → Int32} {F : Nat → Nat} {h : q_H} {Q : q_P} (hO : h o = some (e_Fo o em gl wd lp)) (hW : q_Ta h (o + 3) (o + 1) 0 sz) (hB : q_By h (o + 1) row m g sz F) (hq : Q (some (.int (nI (NT F sz)))) h n) : q_Call G l M_Fo_tables (d + 2) 0 0 [.ref o] h n Q := by
  unfold e_Fo at hO
  have hW' : h (o + 3) = some (.inr (6, [.ref (o + 1), .int (nI 0), .int (nI sz)])) := hW
  refine q_in u_Fo_tables (by rw [L_Fo_tables]; exact Nat.le_of_ble_eq_true rfl) ?_
  rw [L_Fo_tables]
  refine q_at o_Fo_tables [] 20 l_Fo_tables_0 ?_
  simp -implicitDefEqProofs only [s_go, s_nil, s_cons, q_ins, s_op, s_i, s_j, s_a, s_v, s_li, s_lj, s_la, s_liO, s_ljO, s_laO, q_get, q_p1, q_p2, s_n2i, s_n2r, s_n2l, s_n2n, q_pad, q_ar, s_ob, s_obO, q_nth, s_ri, s_riO, s_rb, s_rbO, s_rzO, s_rl, s_rlO, s_rq, s_rqO, s_ry, s_ryO, s_dn, s_tl, s_tn, s_ap, s_an, s_ci, s_cr, s_ni, s_n0, s_n1, q_ags, q_cat, List.contains_nil, List.contains_cons, Nat.reduceBEq, Bool.or_false, Bool.false_or, Bool.true_or, Bool.false_eq_true, ↓reduceIte, Nat.le_refl, Nat.zero_le, true_and, and_true, Nat.reduceLeDiff, Nat.reduceAdd, Nat.add_zero, Nat.zero_add, List.length_cons, List.length_nil, List.set_cons_zero, List.set_cons_succ, Nat.reduceLT, s_fi, s_fl, s_fo, s_fa, s_f0, s_f1, s_set, s_ss, lg_cmp_ge, lg_cmp_le, lg_cmp_gt, lg_cmp_lt, lg_cmp_eq, s_brT, s_brF, s_10, w_Fo_tables, r_Fo_tables, l_Fo_tables_0, f_3_23, kc_4, ml_3_90, w_Ta_u16, hO, hW']
  refine q_c0 (Nat.le_refl _) (Nat.le_refl _) ?_
  refine c_Ta_u16 (j := 4) hW hB (by omega) (by omega) ?_
  simp -implicitDefEqProofs only [s_go, s_nil, s_cons, q_ins, s_op, s_i, s_j, s_a, s_v, s_li, s_lj, s_la, s_liO, s_ljO, s_laO, q_get, q_p1, q_p2, s_n2i, s_n2r, s_n2l, s_n2n, q_pad, q_ar, s_ob, s_obO, q_nth, s_ri, s_riO, s_rb, s_rbO, s_rzO, s_rl, s_rlO, s_rq, s_rqO, s_ry, s_ryO, s_dn, s_tl, s_tn, s_ap, s_an, s_ci, s_cr, s_ni, s_n0, s_n1, q_ags, q_cat, List.contains_nil, List.contains_cons, Nat.reduceBEq, Bool.or_false, Bool.false_or, Bool.true_or, Bool.false_eq_true, ↓reduceIte, Nat.le_refl, Nat.zero_le, true_and, and_true, Nat.reduceLeDiff, Nat.reduceAdd, Nat.add_zero, Nat.zero_add, List.length_cons, List.length_nil, List.set_cons_zero, List.set_cons_succ, Nat.reduceLT, s_fi, s_fl, s_fo, s_fa, s_f0, s_f1, s_set, s_ss, lg_cmp_ge, lg_cmp_le, lg_cmp_gt, lg_cmp_lt, lg_cmp_eq, s_brT, s_brF, s_10, w_Fo_tables, r_Fo_tables, l_Fo_tables_0, f_3_23, kc_4, ml_3_90, w_Ta_u16, hO, hW']
  exact hq
def q_bf (F : Nat → Nat) (sz k : Nat) : Int64 := if k = 0 then -1 else lN (T_n F sz (k - 1))
theorem q_lm1 {a : Nat} (h : a < 2 ^ 63) : ¬ lN a ≤ -1 := by
  rw [Int64.le_iff_toInt_le, pk_lT h]
  show ¬ (a : Int) ≤ (-1 : Int64).toInt
  rw [show (-1 : Int64).toInt = -1 from rfl]
  omega
theorem q_bf_le {F : Nat → Nat} (hF : ∀ j, F j < 256) {sz k : Nat} : (lN (T_n F sz k) ≤ q_bf F sz k) ↔ ¬ (0 < k → T_n F sz (k - 1) < T_n F sz k) := by
  have b1 := U32_lt hF 0 sz (12 + 16 * k)
  have b2 := U32_lt hF 0 sz (12 + 16 * (k - 1))
  unfold q_bf
  by_cases hk : k = 0
  · subst hk
    rw [if_pos rfl]
    constructor
    · intro h; exact absurd h (q_lm1 (by unfold T_n; omega))
    · intro h; exact absurd (fun z => absurd z (by omega)) h
  · rw [if_neg hk, pk_lLE (by unfold T_n; omega) (by unfold T_n; omega)]
    constructor
    · intro h z; have := z (by omega); omega
    · intro h
      rcases Nat.lt_or_ge (T_n F sz (k - 1)) (T_n F sz k) with q | q
      · exact absurd (fun _ => q) h
      · exact q
set_option maxRecDepth 100000 in
set_option maxHeartbeats 4000000 in
theorem z_Fo_isFile {G : q_G} {l : Launch} {d o row m n sz : Nat} {em gl wd lp : Int32} {g : Nat → Int32} {F : Nat → Nat} {h : q_H} {Q : q_P} (hO : h o = some (e_Fo o em gl wd lp)) (hW : q_Ta h (o + 3) (o + 1) 0 sz) (hB : q_By h (o + 1) row m g sz F) (hN : NT F sz ≤ 64) (q1 : (∀ k, k < NT F sz → T_ok F sz k) → Q (some (.int 1)) h n) (q0 : ¬ (∀ k, k < NT F sz → T_ok F sz k) → Q (some (.int 0)) h n) :
    ∀ (r k : Nat), k + r = NT F sz → (∀ j, j < k → T_ok F sz j) → q_Z G l M_Fo_isFile (d + 3) 0 0 Q 58 [some (.ref o), some (.int (nI (NT F sz))), some (.long (q_bf F sz k)), none, some (.int (nI k)), none, none, none] [] h n 0 0 := by
  have hF := hB.2.2.2.2.2.2
  have hs : sz ≤ 16384 := Nat.le_trans hB.2.2.1 hB.2.2.2.1
  have hO' := hO
  unfold e_Fo at hO'
  have hW' : h (o + 3) = some (.inr (6, [.ref (o + 1), .int (nI 0), .int (nI sz)])) := hW
  intro r
  induction r with
  | zero =>
    intro k hk hall
    refine q_at o_Fo_isFile [58] 20 l_Fo_isFile_58 ?_
    simp -implicitDefEqProofs only [s_go, s_nil, s_cons, q_ins, s_op, s_i, s_j, s_a, s_v, s_li, s_lj, s_la, s_liO, s_ljO, s_laO, q_get, q_p1, q_p2, s_n2i, s_n2r, s_n2l, s_n2n, q_pad, q_ar, s_ob, s_obO, q_nth, s_ri, s_riO, s_rb, s_rbO, s_rzO, s_rl, s_rlO, s_rq, s_rqO, s_ry, s_ryO, s_dn, s_tl, s_tn, s_ap, s_an, s_ci, s_cr, s_ni, s_n0, s_n1, q_ags, q_cat, List.contains_nil, List.contains_cons, Nat.reduceBEq, Bool.or_false, Bool.false_or, Bool.true_or, Bool.false_eq_true, ↓reduceIte, Nat.le_refl, Nat.zero_le, true_and, and_true, Nat.reduceLeDiff, Nat.reduceAdd, Nat.add_zero, Nat.zero_add, List.length_cons, List.length_nil, List.set_cons_zero, List.set_cons_succ, Nat.reduceLT, s_fi, s_fl, s_fo, s_fa, s_f0, s_f1, s_set, s_ss, lg_cmp_ge, lg_cmp_le, lg_cmp_gt, lg_cmp_lt, lg_cmp_eq, s_brT, s_brF, s_10, w_Fo_isFile, r_Fo_isFile, l_Fo_isFile_0, l_Fo_isFile_49, l_Fo_isFile_51, l_Fo_isFile_58, l_Fo_isFile_126, l_Fo_isFile_128, l_Fo_isFile_137, ml_3_94, w_Fo_tables, f_3_23, kc_0, ml_3_98, w_Ta_u32, kl_3_102, kc_1, kb_64, kl_3_104, kb_16, ml_3_106, w_Ta_holds, kl_3_110, kb_12, kb_8, hO', hW']
    refine ⟨fun _ => q1 (by rw [← hk]; exact hall), fun c => absurd (nI_le (by omega) (by omega)) c⟩
  | succ r ih =>
    intro k hk hall
    refine q_at o_Fo_isFile [58] 20 l_Fo_isFile_58 ?_
    simp -implicitDefEqProofs only [s_go, s_nil, s_cons, q_ins, s_op, s_i, s_j, s_a, s_v, s_li, s_lj, s_la, s_liO, s_ljO, s_laO, q_get, q_p1, q_p2, s_n2i, s_n2r, s_n2l, s_n2n, q_pad, q_ar, s_ob, s_obO, q_nth, s_ri, s_riO, s_rb, s_rbO, s_rzO, s_rl, s_rlO, s_rq, s_rqO, s_ry, s_ryO, s_dn, s_tl, s_tn, s_ap, s_an, s_ci, s_cr, s_ni, s_n0, s_n1, q_ags, q_cat, List.contains_nil, List.contains_cons, Nat.reduceBEq, Bool.or_false, Bool.false_or, Bool.true_or, Bool.false_eq_true, ↓reduceIte, Nat.le_refl, Nat.zero_le, true_and, and_true, Nat.reduceLeDiff, Nat.reduceAdd, Nat.add_zero, Nat.zero_add, List.length_cons, List.length_nil, List.set_cons_zero, List.set_cons_succ, Nat.reduceLT, s_fi, s_fl, s_fo, s_fa, s_f0, s_f1, s_set, s_ss, lg_cmp_ge, lg_cmp_le, lg_cmp_gt, lg_cmp_lt, lg_cmp_eq, s_brT, s_brF, s_10, w_Fo_isFile, r_Fo_isFile, l_Fo_isFile_0, l_Fo_isFile_49, l_Fo_isFile_51, l_Fo_isFile_58, l_Fo_isFile_126, l_Fo_isFile_128, l_Fo_isFile_137, ml_3_94, w_Fo_tables, f_3_23, kc_0, ml_3_98, w_Ta_u32, kl_3_102, kc_1, kb_64, kl_3_104, kb_16, ml_3_106, w_Ta_holds, kl_3_110, kb_12, kb_8, hO', hW']
    refine ⟨fun c => absurd ((nI_leI (by omega) (by omega)).mp c) (by omega), fun _ => ?_⟩
    rw [show (16 : Int32) * nI k = nI (16 * k) from pk_mul 16 k, show (12 : Int32) + nI (16 * k) = nI (12 + 16 * k) from nI_add 12 _]
    refine q_c0 (Nat.le_refl _) (Nat.le_refl _) ?_
    refine c_Ta_u32 hW hB (by omega) (by omega) ?_
    simp -implicitDefEqProofs only [s_go, s_nil, s_cons, q_ins, s_op, s_i, s_j, s_a, s_v, s_li, s_lj, s_la, s_liO, s_ljO, s_laO, q_get, q_p1, q_p2, s_n2i, s_n2r, s_n2l, s_n2n, q_pad, q_ar, s_ob, s_obO, q_nth, s_ri, s_riO, s_rb, s_rbO, s_rzO, s_rl, s_rlO, s_rq, s_rqO, s_ry, s_ryO, s_dn, s_tl, s_tn, s_ap, s_an, s_ci, s_cr, s_ni, s_n0, s_n1, q_ags, q_cat, List.contains_nil, List.contains_cons, Nat.reduceBEq, Bool.or_false, Bool.false_or, Bool.true_or, Bool.false_eq_true, ↓reduceIte, Nat.le_refl, Nat.zero_le, true_and, and_true, Nat.reduceLeDiff, Nat.reduceAdd, Nat.add_zero, Nat.zero_add, List.length_cons, List.length_nil, List.set_cons_zero, List.set_cons_succ, Nat.reduceLT, s_fi, s_fl, s_fo, s_fa, s_f0, s_f1, s_set, s_ss, lg_cmp_ge, lg_cmp_le, lg_cmp_gt, lg_cmp_lt, lg_cmp_eq, s_brT, s_brF, s_10, w_Fo_isFile, r_Fo_isFile, l_Fo_isFile_0, l_Fo_isFile_49, l_Fo_isFile_51, l_Fo_isFile_58, l_Fo_isFile_126, l_Fo_isFile_128, l_Fo_isFile_137, ml_3_94, w_Fo_tables, f_3_23, kc_0, ml_3_98, w_Ta_u32, kl_3_102, kc_1, kb_64, kl_3_104, kb_16, ml_3_106, w_Ta_holds, kl_3_110, kb_12, kb_8, hO', hW']
    rw [show lN (U32 F 0 sz (12 + 16 * k)) = lN (T_n F sz k) from rfl, q_bf_le hF]
    refine ⟨fun c => q0 (fun z => c (z k (by omega)).1), fun c => ?_⟩
    have c := Classical.not_not.mp c
    rw [show nI (12 + 16 * k) + 8 = nI (12 + 16 * k + 8) from nI_add _ 8]
    refine q_c0 (Nat.le_refl _) (Nat.le_refl _) ?_
    refine c_Ta_u32 hW hB (by omega) (by omega) ?_
    simp -implicitDefEqProofs only [s_go, s_nil, s_cons, q_ins, s_op, s_i, s_j, s_a, s_v, s_li, s_lj, s_la, s_liO, s_ljO, s_laO, q_get, q_p1, q_p2, s_n2i, s_n2r, s_n2l, s_n2n, q_pad, q_ar, s_ob, s_obO, q_nth, s_ri, s_riO, s_rb, s_rbO, s_rzO, s_rl, s_rlO, s_rq, s_rqO, s_ry, s_ryO, s_dn, s_tl, s_tn, s_ap, s_an, s_ci, s_cr, s_ni, s_n0, s_n1, q_ags, q_cat, List.contains_nil, List.contains_cons, Nat.reduceBEq, Bool.or_false, Bool.false_or, Bool.true_or, Bool.false_eq_true, ↓reduceIte, Nat.le_refl, Nat.zero_le, true_and, and_true, Nat.reduceLeDiff, Nat.reduceAdd, Nat.add_zero, Nat.zero_add, List.length_cons, List.length_nil, List.set_cons_zero, List.set_cons_succ, Nat.reduceLT, s_fi, s_fl, s_fo, s_fa, s_f0, s_f1, s_set, s_ss, lg_cmp_ge, lg_cmp_le, lg_cmp_gt, lg_cmp_lt, lg_cmp_eq, s_brT, s_brF, s_10, w_Fo_isFile, r_Fo_isFile, l_Fo_isFile_0, l_Fo_isFile_49, l_Fo_isFile_51, l_Fo_isFile_58, l_Fo_isFile_126, l_Fo_isFile_128, l_Fo_isFile_137, ml_3_94, w_Fo_tables, f_3_23, kc_0, ml_3_98, w_Ta_u32, kl_3_102, kc_1, kb_64, kl_3_104, kb_16, ml_3_106, w_Ta_holds, kl_3_110, kb_12, kb_8, hO', hW']
    rw [show nI (12 + 16 * k) + 12 = nI (12 + 16 * k + 12) from nI_add _ 12]
    refine q_c0 (Nat.le_refl _) (Nat.le_refl _) ?_
    refine c_Ta_u32 hW hB (by omega) (by omega) ?_
    have b1 := U32_lt hF 0 sz (12 + 16 * k + 8)
    have b2 := U32_lt hF 0 sz (12 + 16 * k + 12)
    simp -implicitDefEqProofs only [s_go, s_nil, s_cons, q_ins, s_op, s_i, s_j, s_a, s_v, s_li, s_lj, s_la, s_liO, s_ljO, s_laO, q_get, q_p1, q_p2, s_n2i, s_n2r, s_n2l, s_n2n, q_pad, q_ar, s_ob, s_obO, q_nth, s_ri, s_riO, s_rb, s_rbO, s_rzO, s_rl, s_rlO, s_rq, s_rqO, s_ry, s_ryO, s_dn, s_tl, s_tn, s_ap, s_an, s_ci, s_cr, s_ni, s_n0, s_n1, q_ags, q_cat, List.contains_nil, List.contains_cons, Nat.reduceBEq, Bool.or_false, Bool.false_or, Bool.true_or, Bool.false_eq_true, ↓reduceIte, Nat.le_refl, Nat.zero_le, true_and, and_true, Nat.reduceLeDiff, Nat.reduceAdd, Nat.add_zero, Nat.zero_add, List.length_cons, List.length_nil, List.set_cons_zero, List.set_cons_succ, Nat.reduceLT, s_fi, s_fl, s_fo, s_fa, s_f0, s_f1, s_set, s_ss, lg_cmp_ge, lg_cmp_le, lg_cmp_gt, lg_cmp_lt, lg_cmp_eq, s_brT, s_brF, s_10, w_Fo_isFile, r_Fo_isFile, l_Fo_isFile_0, l_Fo_isFile_49, l_Fo_isFile_51, l_Fo_isFile_58, l_Fo_isFile_126, l_Fo_isFile_128, l_Fo_isFile_137, ml_3_94, w_Fo_tables, f_3_23, kc_0, ml_3_98, w_Ta_u32, kl_3_102, kc_1, kb_64, kl_3_104, kb_16, ml_3_106, w_Ta_holds, kl_3_110, kb_12, kb_8, hO', hW']
    refine q_c0 (Nat.le_refl _) (Nat.le_refl _) ?_
    refine c_Ta_holds hW hs (by omega) (by omega) ?_
    simp -implicitDefEqProofs only [s_go, s_nil, s_cons, q_ins, s_op, s_i, s_j, s_a, s_v, s_li, s_lj, s_la, s_liO, s_ljO, s_laO, q_get, q_p1, q_p2, s_n2i, s_n2r, s_n2l, s_n2n, q_pad, q_ar, s_ob, s_obO, q_nth, s_ri, s_riO, s_rb, s_rbO, s_rzO, s_rl, s_rlO, s_rq, s_rqO, s_ry, s_ryO, s_dn, s_tl, s_tn, s_ap, s_an, s_ci, s_cr, s_ni, s_n0, s_n1, q_ags, q_cat, List.contains_nil, List.contains_cons, Nat.reduceBEq, Bool.or_false, Bool.false_or, Bool.true_or, Bool.false_eq_true, ↓reduceIte, Nat.le_refl, Nat.zero_le, true_and, and_true, Nat.reduceLeDiff, Nat.reduceAdd, Nat.add_zero, Nat.zero_add, List.length_cons, List.length_nil, List.set_cons_zero, List.set_cons_succ, Nat.reduceLT, s_fi, s_fl, s_fo, s_fa, s_f0, s_f1, s_set, s_ss, lg_cmp_ge, lg_cmp_le, lg_cmp_gt, lg_cmp_lt, lg_cmp_eq, s_brT, s_brF, s_10, w_Fo_isFile, r_Fo_isFile, l_Fo_isFile_0, l_Fo_isFile_49, l_Fo_isFile_51, l_Fo_isFile_58, l_Fo_isFile_126, l_Fo_isFile_128, l_Fo_isFile_137, ml_3_94, w_Fo_tables, f_3_23, kc_0, ml_3_98, w_Ta_u32, kl_3_102, kc_1, kb_64, kl_3_104, kb_16, ml_3_106, w_Ta_holds, kl_3_110, kb_12, kb_8, hO', hW']
    by_cases hh : U32 F 0 sz (12 + 16 * k + 8) + U32 F 0 sz (12 + 16 * k + 12) ≤ sz
    · rw [q_z_t hh]
      refine ⟨fun z => absurd z (by decide), fun _ => ?_⟩
      refine q_wk (ih (k + 1) (by omega) (fun j hj => ?_)) ?_
      · rcases Nat.lt_or_ge j k with z | z
        · exact hall j z
        · have : j = k := by omega
          subst this
          exact ⟨c, hh⟩
      · refine ⟨rfl, rfl, ?_, ?_, trivial⟩
        · show some (Value.long (lN (T_n F sz k))) = _
          unfold q_bf
          rw [if_neg (by omega)]
          rfl
        · rw [nI_1]
    · rw [q_z_f hh]
      exact ⟨fun _ => q0 (fun z => hh (z k (by omega)).2), fun z => absurd rfl z⟩
theorem lN_c (n : Nat) (x : Int64) (h : x = lN n) : x = lN n := h
set_option maxRecDepth 100000 in
set_option maxHeartbeats 4000000 in
theorem c_Fo_isFile {G : q_G} {l : Launch} {d o row m n sz : Nat} {em gl wd lp : Int32} {g : Nat → Int32} {F : Nat → Nat} {h : q_H} {Q : q_P} (hO : h o = some (e_Fo o em gl wd lp)) (hW : q_Ta h (o + 3) (o + 1) 0 sz) (hB : q_By h (o + 1) row m g sz F) (q1 : FILE_ok F sz → Q (some (.int 1)) h n) (q0 : ¬ FILE_ok F sz → Q (some (.int 0)) h n) : q_Call G l M_Fo_isFile (d + 3) 0 0 [.ref o] h n Q := by
  have hF := hB.2.2.2.2.2.2
  have hs : sz ≤ 16384 := Nat.le_trans hB.2.2.1 hB.2.2.2.1
  have hO' := hO
  unfold e_Fo at hO'
  have hW' : h (o + 3) = some (.inr (6, [.ref (o + 1), .int (nI 0), .int (nI sz)])) := hW
  have bN : NT F sz < 65536 := U16_lt hF 0 sz 4
  have b0 := U32_lt hF 0 sz 0
  refine q_in u_Fo_isFile (by rw [L_Fo_isFile]; exact Nat.le_of_ble_eq_true rfl) ?_
  rw [L_Fo_isFile]
  refine q_at o_Fo_isFile [58] 20 l_Fo_isFile_0 ?_
  simp -implicitDefEqProofs only [s_go, s_nil, s_cons, q_ins, s_op, s_i, s_j, s_a, s_v, s_li, s_lj, s_la, s_liO, s_ljO, s_laO, q_get, q_p1, q_p2, s_n2i, s_n2r, s_n2l, s_n2n, q_pad, q_ar, s_ob, s_obO, q_nth, s_ri, s_riO, s_rb, s_rbO, s_rzO, s_rl, s_rlO, s_rq, s_rqO, s_ry, s_ryO, s_dn, s_tl, s_tn, s_ap, s_an, s_ci, s_cr, s_ni, s_n0, s_n1, q_ags, q_cat, List.contains_nil, List.contains_cons, Nat.reduceBEq, Bool.or_false, Bool.false_or, Bool.true_or, Bool.false_eq_true, ↓reduceIte, Nat.le_refl, Nat.zero_le, true_and, and_true, Nat.reduceLeDiff, Nat.reduceAdd, Nat.add_zero, Nat.zero_add, List.length_cons, List.length_nil, List.set_cons_zero, List.set_cons_succ, Nat.reduceLT, s_fi, s_fl, s_fo, s_fa, s_f0, s_f1, s_set, s_ss, lg_cmp_ge, lg_cmp_le, lg_cmp_gt, lg_cmp_lt, lg_cmp_eq, s_brT, s_brF, s_10, w_Fo_isFile, r_Fo_isFile, l_Fo_isFile_0, l_Fo_isFile_49, l_Fo_isFile_51, l_Fo_isFile_58, l_Fo_isFile_126, l_Fo_isFile_128, l_Fo_isFile_137, ml_3_94, w_Fo_tables, f_3_23, kc_0, ml_3_98, w_Ta_u32, kl_3_102, kc_1, kb_64, kl_3_104, kb_16, ml_3_106, w_Ta_holds, kl_3_110, kb_12, kb_8, hO', hW']
  refine q_c0 (Nat.le_refl _) (Nat.le_refl _) ?_
  refine c_Fo_tables hO hW hB ?_
  simp -implicitDefEqProofs only [s_go, s_nil, s_cons, q_ins, s_op, s_i, s_j, s_a, s_v, s_li, s_lj, s_la, s_liO, s_ljO, s_laO, q_get, q_p1, q_p2, s_n2i, s_n2r, s_n2l, s_n2n, q_pad, q_ar, s_ob, s_obO, q_nth, s_ri, s_riO, s_rb, s_rbO, s_rzO, s_rl, s_rlO, s_rq, s_rqO, s_ry, s_ryO, s_dn, s_tl, s_tn, s_ap, s_an, s_ci, s_cr, s_ni, s_n0, s_n1, q_ags, q_cat, List.contains_nil, List.contains_cons, Nat.reduceBEq, Bool.or_false, Bool.false_or, Bool.true_or, Bool.false_eq_true, ↓reduceIte, Nat.le_refl, Nat.zero_le, true_and, and_true, Nat.reduceLeDiff, Nat.reduceAdd, Nat.add_zero, Nat.zero_add, List.length_cons, List.length_nil, List.set_cons_zero, List.set_cons_succ, Nat.reduceLT, s_fi, s_fl, s_fo, s_fa, s_f0, s_f1, s_set, s_ss, lg_cmp_ge, lg_cmp_le, lg_cmp_gt, lg_cmp_lt, lg_cmp_eq, s_brT, s_brF, s_10, w_Fo_isFile, r_Fo_isFile, l_Fo_isFile_0, l_Fo_isFile_49, l_Fo_isFile_51, l_Fo_isFile_58, l_Fo_isFile_126, l_Fo_isFile_128, l_Fo_isFile_137, ml_3_94, w_Fo_tables, f_3_23, kc_0, ml_3_98, w_Ta_u32, kl_3_102, kc_1, kb_64, kl_3_104, kb_16, ml_3_106, w_Ta_holds, kl_3_110, kb_12, kb_8, hO', hW']
  refine q_c0 (Nat.le_refl _) (Nat.le_refl _) ?_
  refine c_Ta_u32 (j := 0) hW hB (by omega) (by omega) ?_
  simp -implicitDefEqProofs only [s_go, s_nil, s_cons, q_ins, s_op, s_i, s_j, s_a, s_v, s_li, s_lj, s_la, s_liO, s_ljO, s_laO, q_get, q_p1, q_p2, s_n2i, s_n2r, s_n2l, s_n2n, q_pad, q_ar, s_ob, s_obO, q_nth, s_ri, s_riO, s_rb, s_rbO, s_rzO, s_rl, s_rlO, s_rq, s_rqO, s_ry, s_ryO, s_dn, s_tl, s_tn, s_ap, s_an, s_ci, s_cr, s_ni, s_n0, s_n1, q_ags, q_cat, List.contains_nil, List.contains_cons, Nat.reduceBEq, Bool.or_false, Bool.false_or, Bool.true_or, Bool.false_eq_true, ↓reduceIte, Nat.le_refl, Nat.zero_le, true_and, and_true, Nat.reduceLeDiff, Nat.reduceAdd, Nat.add_zero, Nat.zero_add, List.length_cons, List.length_nil, List.set_cons_zero, List.set_cons_succ, Nat.reduceLT, s_fi, s_fl, s_fo, s_fa, s_f0, s_f1, s_set, s_ss, lg_cmp_ge, lg_cmp_le, lg_cmp_gt, lg_cmp_lt, lg_cmp_eq, s_brT, s_brF, s_10, w_Fo_isFile, r_Fo_isFile, l_Fo_isFile_0, l_Fo_isFile_49, l_Fo_isFile_51, l_Fo_isFile_58, l_Fo_isFile_126, l_Fo_isFile_128, l_Fo_isFile_137, ml_3_94, w_Fo_tables, f_3_23, kc_0, ml_3_98, w_Ta_u32, kl_3_102, kc_1, kb_64, kl_3_104, kb_16, ml_3_106, w_Ta_holds, kl_3_110, kb_12, kb_8, hO', hW']
  rw [show (65536 : Int64) = lN 65536 from rfl, pk_lEQ (by omega) (by omega), show (1 : Int32) = nI 1 from rfl, nI_ltI (by omega) (by omega), show (64 : Int32) = nI 64 from rfl, nI_ltI (by omega) (by omega)]
  refine ⟨fun c => ⟨fun c1 => q0 (fun z => absurd z.2.1 (by omega)), fun c1 => ⟨fun c2 => q0 (fun z => absurd z.2.2.1 (by omega)), fun c2 => ?_⟩⟩, fun c => q0 (fun z => c z.1)⟩
  rw [show (16 : Int32) * nI (NT F sz) = nI (16 * NT F sz) from pk_mul 16 _, nI_l (by omega)]
  refine q_c0 (Nat.le_refl _) (Nat.le_refl _) ?_
  refine c_Ta_holds (x := 12) hW hs (by omega) (by omega) ?_
  simp -implicitDefEqProofs only [s_go, s_nil, s_cons, q_ins, s_op, s_i, s_j, s_a, s_v, s_li, s_lj, s_la, s_liO, s_ljO, s_laO, q_get, q_p1, q_p2, s_n2i, s_n2r, s_n2l, s_n2n, q_pad, q_ar, s_ob, s_obO, q_nth, s_ri, s_riO, s_rb, s_rbO, s_rzO, s_rl, s_rlO, s_rq, s_rqO, s_ry, s_ryO, s_dn, s_tl, s_tn, s_ap, s_an, s_ci, s_cr, s_ni, s_n0, s_n1, q_ags, q_cat, List.contains_nil, List.contains_cons, Nat.reduceBEq, Bool.or_false, Bool.false_or, Bool.true_or, Bool.false_eq_true, ↓reduceIte, Nat.le_refl, Nat.zero_le, true_and, and_true, Nat.reduceLeDiff, Nat.reduceAdd, Nat.add_zero, Nat.zero_add, List.length_cons, List.length_nil, List.set_cons_zero, List.set_cons_succ, Nat.reduceLT, s_fi, s_fl, s_fo, s_fa, s_f0, s_f1, s_set, s_ss, lg_cmp_ge, lg_cmp_le, lg_cmp_gt, lg_cmp_lt, lg_cmp_eq, s_brT, s_brF, s_10, w_Fo_isFile, r_Fo_isFile, l_Fo_isFile_0, l_Fo_isFile_49, l_Fo_isFile_51, l_Fo_isFile_58, l_Fo_isFile_126, l_Fo_isFile_128, l_Fo_isFile_137, ml_3_94, w_Fo_tables, f_3_23, kc_0, ml_3_98, w_Ta_u32, kl_3_102, kc_1, kb_64, kl_3_104, kb_16, ml_3_106, w_Ta_holds, kl_3_110, kb_12, kb_8, hO', hW']
  by_cases hh : 12 + 16 * NT F sz ≤ sz
  · rw [q_z_t hh]
    refine ⟨fun z => absurd z (by decide), fun _ => ?_⟩
    exact z_Fo_isFile hO hW hB (by omega) (fun z => q1 ⟨c, by omega, by omega, hh, z⟩) (fun z => q0 (fun y => z y.2.2.2.2)) (NT F sz) 0 (by omega) (fun j hj => absurd hj (by omega))
  · rw [q_z_f hh]
    exact ⟨fun _ => q0 (fun z => hh z.2.2.2.1), fun z => absurd rfl z⟩
/-- the sum of a table's U32s, step by step -/
def SUMk (F : Nat → Nat) (st ln : Nat) : Nat → Nat
  | 0 => 0
  | k + 1 => SUMk F st ln k + U32 F st ln (4 * k)
theorem SUMk_lt {F : Nat → Nat} (hF : ∀ j, F j < 256) (st ln : Nat) : ∀ k, SUMk F st ln k ≤ k * 4294967296
  | 0 => by simp [SUMk]
  | k + 1 => by
    have := SUMk_lt hF st ln k
    have := U32_lt hF st ln (4 * k)
    simp only [SUMk]
    omega
theorem lN_mask {a : Nat} (h : a < 2 ^ 63) : lN a &&& 4294967295 = lN (a % 4294967296) := by
  apply Int64.toBitVec_inj.mp
  show BitVec.ofNat 64 a &&& BitVec.ofNat 64 4294967295 = BitVec.ofNat 64 (a % 4294967296)
  rw [← BitVec.ofNat_and, show (4294967295 : Nat) = 2 ^ 32 - 1 from rfl, Nat.and_two_pow_sub_one_eq_mod]
set_option maxRecDepth 100000 in
set_option maxHeartbeats 4000000 in
theorem z_Fo_sum {G : q_G} {l : Launch} {d o a f row m n sz st ln : Nat} {g : Nat → Int32} {F : Nat → Nat} {h : q_H} {Q : q_P} (hT : q_Ta h a f st ln) (hB : q_By h f row m g sz F) (hin : st + ln ≤ sz) (hq : Q (some (.long (lN (SUMk F st ln ((ln + 3) / 4) % 4294967296)))) h n) :
    ∀ (r k : Nat), k + r = (ln + 3) / 4 → q_Z G l M_Fo_sum (d + 2) 0 0 Q 5 [some (.ref o), some (.ref a), some (.long (lN (SUMk F st ln k))), none, some (.int (nI (4 * k)))] [] h n 0 0 := by
  have hF := hB.2.2.2.2.2.2
  have hs : sz ≤ 16384 := Nat.le_trans hB.2.2.1 hB.2.2.2.1
  have hT' : h a = some (.inr (6, [.ref f, .int (nI st), .int (nI ln)])) := hT
  intro r
  induction r with
  | zero =>
    intro k hk
    have b1 := SUMk_lt hF st ln k
    refine q_at o_Fo_sum [5] 20 l_Fo_sum_5 ?_
    simp -implicitDefEqProofs only [s_go, s_nil, s_cons, q_ins, s_op, s_i, s_j, s_a, s_v, s_li, s_lj, s_la, s_liO, s_ljO, s_laO, q_get, q_p1, q_p2, s_n2i, s_n2r, s_n2l, s_n2n, q_pad, q_ar, s_ob, s_obO, q_nth, s_ri, s_riO, s_rb, s_rbO, s_rzO, s_rl, s_rlO, s_rq, s_rqO, s_ry, s_ryO, s_dn, s_tl, s_tn, s_ap, s_an, s_ci, s_cr, s_ni, s_n0, s_n1, q_ags, q_cat, List.contains_nil, List.contains_cons, Nat.reduceBEq, Bool.or_false, Bool.false_or, Bool.true_or, Bool.false_eq_true, ↓reduceIte, Nat.le_refl, Nat.zero_le, true_and, and_true, Nat.reduceLeDiff, Nat.reduceAdd, Nat.add_zero, Nat.zero_add, List.length_cons, List.length_nil, List.set_cons_zero, List.set_cons_succ, Nat.reduceLT, s_fi, s_fl, s_fo, s_fa, s_f0, s_f1, s_set, s_ss, lg_cmp_ge, lg_cmp_le, lg_cmp_gt, lg_cmp_lt, lg_cmp_eq, s_brT, s_brF, s_10, w_Fo_sum, r_Fo_sum, l_Fo_sum_0, l_Fo_sum_5, l_Fo_sum_29, kj_0, kc_0, f_3_120, ml_3_98, w_Ta_u32, kc_4, kl_3_123, hT']
    refine ⟨fun _ => ?_, fun c => absurd (nI_le (by omega) (by omega)) c⟩
    rw [lN_mask (by omega)]
    rw [Nat.add_zero] at hk
    rw [hk]
    exact hq
  | succ r ih =>
    intro k hk
    refine q_at o_Fo_sum [5] 20 l_Fo_sum_5 ?_
    simp -implicitDefEqProofs only [s_go, s_nil, s_cons, q_ins, s_op, s_i, s_j, s_a, s_v, s_li, s_lj, s_la, s_liO, s_ljO, s_laO, q_get, q_p1, q_p2, s_n2i, s_n2r, s_n2l, s_n2n, q_pad, q_ar, s_ob, s_obO, q_nth, s_ri, s_riO, s_rb, s_rbO, s_rzO, s_rl, s_rlO, s_rq, s_rqO, s_ry, s_ryO, s_dn, s_tl, s_tn, s_ap, s_an, s_ci, s_cr, s_ni, s_n0, s_n1, q_ags, q_cat, List.contains_nil, List.contains_cons, Nat.reduceBEq, Bool.or_false, Bool.false_or, Bool.true_or, Bool.false_eq_true, ↓reduceIte, Nat.le_refl, Nat.zero_le, true_and, and_true, Nat.reduceLeDiff, Nat.reduceAdd, Nat.add_zero, Nat.zero_add, List.length_cons, List.length_nil, List.set_cons_zero, List.set_cons_succ, Nat.reduceLT, s_fi, s_fl, s_fo, s_fa, s_f0, s_f1, s_set, s_ss, lg_cmp_ge, lg_cmp_le, lg_cmp_gt, lg_cmp_lt, lg_cmp_eq, s_brT, s_brF, s_10, w_Fo_sum, r_Fo_sum, l_Fo_sum_0, l_Fo_sum_5, l_Fo_sum_29, kj_0, kc_0, f_3_120, ml_3_98, w_Ta_u32, kc_4, kl_3_123, hT']
    refine ⟨fun c => absurd ((nI_leI (by omega) (by omega)).mp c) (by omega), fun _ => ?_⟩
    refine q_c0 (Nat.le_refl _) (Nat.le_refl _) ?_
    refine c_Ta_u32 hT hB hin (by omega) ?_
    simp -implicitDefEqProofs only [s_go, s_nil, s_cons, q_ins, s_op, s_i, s_j, s_a, s_v, s_li, s_lj, s_la, s_liO, s_ljO, s_laO, q_get, q_p1, q_p2, s_n2i, s_n2r, s_n2l, s_n2n, q_pad, q_ar, s_ob, s_obO, q_nth, s_ri, s_riO, s_rb, s_rbO, s_rzO, s_rl, s_rlO, s_rq, s_rqO, s_ry, s_ryO, s_dn, s_tl, s_tn, s_ap, s_an, s_ci, s_cr, s_ni, s_n0, s_n1, q_ags, q_cat, List.contains_nil, List.contains_cons, Nat.reduceBEq, Bool.or_false, Bool.false_or, Bool.true_or, Bool.false_eq_true, ↓reduceIte, Nat.le_refl, Nat.zero_le, true_and, and_true, Nat.reduceLeDiff, Nat.reduceAdd, Nat.add_zero, Nat.zero_add, List.length_cons, List.length_nil, List.set_cons_zero, List.set_cons_succ, Nat.reduceLT, s_fi, s_fl, s_fo, s_fa, s_f0, s_f1, s_set, s_ss, lg_cmp_ge, lg_cmp_le, lg_cmp_gt, lg_cmp_lt, lg_cmp_eq, s_brT, s_brF, s_10, w_Fo_sum, r_Fo_sum, l_Fo_sum_0, l_Fo_sum_5, l_Fo_sum_29, kj_0, kc_0, f_3_120, ml_3_98, w_Ta_u32, kc_4, kl_3_123, hT', lN_add]
    rw [show nI (4 * k) + 4 = nI (4 * (k + 1)) from nI_add _ 4]
    exact ih (k + 1) (by omega)
set_option maxRecDepth 100000 in
set_option maxHeartbeats 4000000 in
theorem c_Fo_sum {G : q_G} {l : Launch} {d o a f row m n sz st ln : Nat} {g : Nat → Int32} {F : Nat → Nat} {h : q_H} {Q : q_P} (hT : q_Ta h a f st ln) (hB : q_By h f row m g sz F) (hin : st + ln ≤ sz) (hq : Q (some (.long (lN (SUMk F st ln ((ln + 3) / 4) % 4294967296)))) h n) : q_Call G l M_Fo_sum (d + 2) 0 0 [.ref o, .ref a] h n Q := by
  refine q_in u_Fo_sum (by rw [L_Fo_sum]; exact Nat.le_of_ble_eq_true rfl) ?_
  rw [L_Fo_sum]
  refine q_at o_Fo_sum [5] 20 l_Fo_sum_0 ?_
  simp -implicitDefEqProofs only [s_go, s_nil, s_cons, q_ins, s_op, s_i, s_j, s_a, s_v, s_li, s_lj, s_la, s_liO, s_ljO, s_laO, q_get, q_p1, q_p2, s_n2i, s_n2r, s_n2l, s_n2n, q_pad, q_ar, s_ob, s_obO, q_nth, s_ri, s_riO, s_rb, s_rbO, s_rzO, s_rl, s_rlO, s_rq, s_rqO, s_ry, s_ryO, s_dn, s_tl, s_tn, s_ap, s_an, s_ci, s_cr, s_ni, s_n0, s_n1, q_ags, q_cat, List.contains_nil, List.contains_cons, Nat.reduceBEq, Bool.or_false, Bool.false_or, Bool.true_or, Bool.false_eq_true, ↓reduceIte, Nat.le_refl, Nat.zero_le, true_and, and_true, Nat.reduceLeDiff, Nat.reduceAdd, Nat.add_zero, Nat.zero_add, List.length_cons, List.length_nil, List.set_cons_zero, List.set_cons_succ, Nat.reduceLT, s_fi, s_fl, s_fo, s_fa, s_f0, s_f1, s_set, s_ss, lg_cmp_ge, lg_cmp_le, lg_cmp_gt, lg_cmp_lt, lg_cmp_eq, s_brT, s_brF, s_10, w_Fo_sum, r_Fo_sum, l_Fo_sum_0, l_Fo_sum_5, l_Fo_sum_29, kj_0, kc_0, f_3_120, ml_3_98, w_Ta_u32, kc_4, kl_3_123]
  exact z_Fo_sum hT hB hin hq ((ln + 3) / 4) 0 (by omega)
set_option maxRecDepth 100000 in
set_option maxHeartbeats 4000000 in
theorem c_Fo_layByEntry {G : q_G} {l : Launch} {d o a row m n sz k st ln : Nat} {em gl wd lp : Int32} {g : Nat → Int32} {F : Nat → Nat} {h : q_H} {Q : q_P} (hO : h o = some (e_Fo o em gl wd lp)) (hW : q_Ta h (o + 3) (o + 1) 0 sz) (hB : q_By h (o + 1) row m g sz F) (hT : q_Ta h a (o + 1) st ln) (hk : k < 64)
    (hq : Q none (q_set h a (.inr (6, [.ref (o + 1), .int (nI (T_p F sz k)), .int (nI (T_l F sz k))]))) n) : q_Call G l M_Fo_layByEntry (d + 2) 0 0 [.ref o, .ref a, .int (nI (12 + 16 * k))] h n Q := by
  have hF := hB.2.2.2.2.2.2
  have hO' := hO
  unfold e_Fo at hO'
  have hW' : h (o + 3) = some (.inr (6, [.ref (o + 1), .int (nI 0), .int (nI sz)])) := hW
  have hT' : h a = some (.inr (6, [.ref (o + 1), .int (nI st), .int (nI ln)])) := hT
  refine q_in u_Fo_layByEntry (by rw [L_Fo_layByEntry]; exact Nat.le_of_ble_eq_true rfl) ?_
  rw [L_Fo_layByEntry]
  refine q_at o_Fo_layByEntry [] 20 l_Fo_layByEntry_0 ?_
  simp -implicitDefEqProofs only [s_go, s_nil, s_cons, q_ins, s_op, s_i, s_j, s_a, s_v, s_li, s_lj, s_la, s_liO, s_ljO, s_laO, q_get, q_p1, q_p2, s_n2i, s_n2r, s_n2l, s_n2n, q_pad, q_ar, s_ob, s_obO, q_nth, s_ri, s_riO, s_rb, s_rbO, s_rzO, s_rl, s_rlO, s_rq, s_rqO, s_ry, s_ryO, s_dn, s_tl, s_tn, s_ap, s_an, s_ci, s_cr, s_ni, s_n0, s_n1, q_ags, q_cat, List.contains_nil, List.contains_cons, Nat.reduceBEq, Bool.or_false, Bool.false_or, Bool.true_or, Bool.false_eq_true, ↓reduceIte, Nat.le_refl, Nat.zero_le, true_and, and_true, Nat.reduceLeDiff, Nat.reduceAdd, Nat.add_zero, Nat.zero_add, List.length_cons, List.length_nil, List.set_cons_zero, List.set_cons_succ, Nat.reduceLT, s_fi, s_fl, s_fo, s_fa, s_f0, s_f1, s_set, s_ss, lg_cmp_ge, lg_cmp_le, lg_cmp_gt, lg_cmp_lt, lg_cmp_eq, s_brT, s_brF, s_10, w_Fo_layByEntry, r_Fo_layByEntry, l_Fo_layByEntry_0, f_3_23, kb_8, ml_3_98, w_Ta_u32, kb_12, ml_3_67, w_Ta_lay, hO', hW', hT']
  rw [show nI (12 + 16 * k) + 8 = nI (12 + 16 * k + 8) from nI_add _ 8]
  refine q_c0 (Nat.le_refl _) (Nat.le_refl _) ?_
  refine c_Ta_u32 hW hB (by omega) (by omega) ?_
  simp -implicitDefEqProofs only [s_go, s_nil, s_cons, q_ins, s_op, s_i, s_j, s_a, s_v, s_li, s_lj, s_la, s_liO, s_ljO, s_laO, q_get, q_p1, q_p2, s_n2i, s_n2r, s_n2l, s_n2n, q_pad, q_ar, s_ob, s_obO, q_nth, s_ri, s_riO, s_rb, s_rbO, s_rzO, s_rl, s_rlO, s_rq, s_rqO, s_ry, s_ryO, s_dn, s_tl, s_tn, s_ap, s_an, s_ci, s_cr, s_ni, s_n0, s_n1, q_ags, q_cat, List.contains_nil, List.contains_cons, Nat.reduceBEq, Bool.or_false, Bool.false_or, Bool.true_or, Bool.false_eq_true, ↓reduceIte, Nat.le_refl, Nat.zero_le, true_and, and_true, Nat.reduceLeDiff, Nat.reduceAdd, Nat.add_zero, Nat.zero_add, List.length_cons, List.length_nil, List.set_cons_zero, List.set_cons_succ, Nat.reduceLT, s_fi, s_fl, s_fo, s_fa, s_f0, s_f1, s_set, s_ss, lg_cmp_ge, lg_cmp_le, lg_cmp_gt, lg_cmp_lt, lg_cmp_eq, s_brT, s_brF, s_10, w_Fo_layByEntry, r_Fo_layByEntry, l_Fo_layByEntry_0, f_3_23, kb_8, ml_3_98, w_Ta_u32, kb_12, ml_3_67, w_Ta_lay, hO', hW', hT']
  rw [show nI (12 + 16 * k) + 12 = nI (12 + 16 * k + 12) from nI_add _ 12]
  refine q_c0 (Nat.le_refl _) (Nat.le_refl _) ?_
  refine c_Ta_u32 hW hB (by omega) (by omega) ?_
  simp -implicitDefEqProofs only [s_go, s_nil, s_cons, q_ins, s_op, s_i, s_j, s_a, s_v, s_li, s_lj, s_la, s_liO, s_ljO, s_laO, q_get, q_p1, q_p2, s_n2i, s_n2r, s_n2l, s_n2n, q_pad, q_ar, s_ob, s_obO, q_nth, s_ri, s_riO, s_rb, s_rbO, s_rzO, s_rl, s_rlO, s_rq, s_rqO, s_ry, s_ryO, s_dn, s_tl, s_tn, s_ap, s_an, s_ci, s_cr, s_ni, s_n0, s_n1, q_ags, q_cat, List.contains_nil, List.contains_cons, Nat.reduceBEq, Bool.or_false, Bool.false_or, Bool.true_or, Bool.false_eq_true, ↓reduceIte, Nat.le_refl, Nat.zero_le, true_and, and_true, Nat.reduceLeDiff, Nat.reduceAdd, Nat.add_zero, Nat.zero_add, List.length_cons, List.length_nil, List.set_cons_zero, List.set_cons_succ, Nat.reduceLT, s_fi, s_fl, s_fo, s_fa, s_f0, s_f1, s_set, s_ss, lg_cmp_ge, lg_cmp_le, lg_cmp_gt, lg_cmp_lt, lg_cmp_eq, s_brT, s_brF, s_10, w_Fo_layByEntry, r_Fo_layByEntry, l_Fo_layByEntry_0, f_3_23, kb_8, ml_3_98, w_Ta_u32, kb_12, ml_3_67, w_Ta_lay, hO', hW', hT', lN_i]
  refine q_c0 (Nat.le_refl _) (Nat.le_refl _) ?_
  refine c_Ta_lay hT ?_
  simp -implicitDefEqProofs only [s_go, s_nil, s_cons, q_ins, s_op, s_i, s_j, s_a, s_v, s_li, s_lj, s_la, s_liO, s_ljO, s_laO, q_get, q_p1, q_p2, s_n2i, s_n2r, s_n2l, s_n2n, q_pad, q_ar, s_ob, s_obO, q_nth, s_ri, s_riO, s_rb, s_rbO, s_rzO, s_rl, s_rlO, s_rq, s_rqO, s_ry, s_ryO, s_dn, s_tl, s_tn, s_ap, s_an, s_ci, s_cr, s_ni, s_n0, s_n1, q_ags, q_cat, List.contains_nil, List.contains_cons, Nat.reduceBEq, Bool.or_false, Bool.false_or, Bool.true_or, Bool.false_eq_true, ↓reduceIte, Nat.le_refl, Nat.zero_le, true_and, and_true, Nat.reduceLeDiff, Nat.reduceAdd, Nat.add_zero, Nat.zero_add, List.length_cons, List.length_nil, List.set_cons_zero, List.set_cons_succ, Nat.reduceLT, s_fi, s_fl, s_fo, s_fa, s_f0, s_f1, s_set, s_ss, lg_cmp_ge, lg_cmp_le, lg_cmp_gt, lg_cmp_lt, lg_cmp_eq, s_brT, s_brF, s_10, w_Fo_layByEntry, r_Fo_layByEntry, l_Fo_layByEntry_0, f_3_23, kb_8, ml_3_98, w_Ta_u32, kb_12, ml_3_67, w_Ta_lay]
  exact hq
end
section
/-! Font: sums, tables -/
def SUM1 (F : Nat → Nat) (sz k : Nat) : Prop := SUMk F (T_p F sz k) (T_l F sz k) ((T_l F sz k + 3) / 4) % 4294967296 = T_s F sz k
def SUMS_ok (F : Nat → Nat) (sz : Nat) : Prop := ∀ k, k < NT F sz → SUM1 F sz k
theorem q_By.mv {h h' : q_H} {f row m sz : Nat} {g : Nat → Int32} {F : Nat → Nat} (hB : q_By h f row m g sz F) (h1 : h' f = h f) (h2 : h' row = h row) : q_By h' f row m g sz F := ⟨h1.trans hB.1, h2.trans hB.2.1, hB.2.2⟩
theorem q_By.ne {h : q_H} {f row m sz a : Nat} {g : Nat → Int32} {F : Nat → Nat} {ci : Nat} {fs : List Value} (hB : q_By h f row m g sz F) (ha : h a = some (.inr (ci, fs))) : row ≠ a := by
  intro q
  have := hB.2.1
  rw [q, ha] at this
  cases this
set_option maxRecDepth 100000 in
set_option maxHeartbeats 4000000 in
theorem z_Fo_hasSums {G : q_G} {l : Launch} {d o row m n sz : Nat} {em gl wd lp : Int32} {g : Nat → Int32} {F : Nat → Nat} {h : q_H} {Q : q_P} (hO : h o = some (e_Fo o em gl wd lp)) (hW : q_Ta h (o + 3) (o + 1) 0 sz) (hB : q_By h (o + 1) row m g sz F) (hf : FILE_ok F sz) (hr4 : row ≠ o + 4) (q1 : SUMS_ok F sz → ∀ h' st ln, q_1 h h' (o + 4) → q_Ta h' (o + 4) (o + 1) st ln → Q (some (.int 1)) h' n) (q0 : ¬ SUMS_ok F sz → ∀ h' st ln, q_1 h h' (o + 4) → q_Ta h' (o + 4) (o + 1) st ln → Q (some (.int 0)) h' n) :
    ∀ (r k : Nat), k + r = NT F sz → (∀ j, j < k → SUM1 F sz j) → ∀ h' st ln, q_1 h h' (o + 4) → q_Ta h' (o + 4) (o + 1) st ln → q_Z G l M_Fo_hasSums (d + 3) 0 0 Q 7 [some (.ref o), some (.int (nI (NT F sz))), some (.int (nI k)), none] [] h' n 0 0 := by
  have hF := hB.2.2.2.2.2.2
  have hs : sz ≤ 16384 := Nat.le_trans hB.2.2.1 hB.2.2.2.1
  have hN := hf.2.2.1
  intro r
  induction r with
  | zero =>
    intro k hk hall h' st ln f1 f2
    refine q_at o_Fo_hasSums [7] 20 l_Fo_hasSums_7 ?_
    simp -implicitDefEqProofs only [s_go, s_nil, s_cons, q_ins, s_op, s_i, s_j, s_a, s_v, s_li, s_lj, s_la, s_liO, s_ljO, s_laO, q_get, q_p1, q_p2, s_n2i, s_n2r, s_n2l, s_n2n, q_pad, q_ar, s_ob, s_obO, q_nth, s_ri, s_riO, s_rb, s_rbO, s_rzO, s_rl, s_rlO, s_rq, s_rqO, s_ry, s_ryO, s_dn, s_tl, s_tn, s_ap, s_an, s_ci, s_cr, s_ni, s_n0, s_n1, q_ags, q_cat, List.contains_nil, List.contains_cons, Nat.reduceBEq, Bool.or_false, Bool.false_or, Bool.true_or, Bool.false_eq_true, ↓reduceIte, Nat.le_refl, Nat.zero_le, true_and, and_true, Nat.reduceLeDiff, Nat.reduceAdd, Nat.add_zero, Nat.zero_add, List.length_cons, List.length_nil, List.set_cons_zero, List.set_cons_succ, Nat.reduceLT, s_fi, s_fl, s_fo, s_fa, s_f0, s_f1, s_set, s_ss, lg_cmp_ge, lg_cmp_le, lg_cmp_gt, lg_cmp_lt, lg_cmp_eq, s_brT, s_brF, s_10, w_Fo_hasSums, r_Fo_hasSums, l_Fo_hasSums_0, l_Fo_hasSums_7, l_Fo_hasSums_53, l_Fo_hasSums_59, ml_3_94, w_Fo_tables, kc_0, kb_12, kb_16, f_3_27, ml_3_112, w_Fo_layByEntry, ml_3_116, w_Fo_sum, f_3_23, kc_4, ml_3_98, w_Ta_u32, kc_1]
    exact ⟨fun _ => q1 (by unfold SUMS_ok; rw [← hk]; exact hall) h' st ln f1 f2, fun c => absurd (nI_le (by omega) (by omega)) c⟩
  | succ r ih =>
    intro k hk hall h' st ln f1 f2
    have O1 : h' o = some (e_Fo o em gl wd lp) := (f1 o (by omega)).trans hO
    have W1 : q_Ta h' (o + 3) (o + 1) 0 sz := (f1 (o + 3) (by omega)).trans hW
    have B1 : q_By h' (o + 1) row m g sz F := hB.mv (f1 _ (by omega)) (f1 _ hr4)
    have O1' := O1
    unfold e_Fo at O1'
    have W1' : h' (o + 3) = some (.inr (6, [.ref (o + 1), .int (nI 0), .int (nI sz)])) := W1
    have S1' : h' (o + 4) = some (.inr (6, [.ref (o + 1), .int (nI st), .int (nI ln)])) := f2
    refine q_at o_Fo_hasSums [7] 20 l_Fo_hasSums_7 ?_
    simp -implicitDefEqProofs only [s_go, s_nil, s_cons, q_ins, s_op, s_i, s_j, s_a, s_v, s_li, s_lj, s_la, s_liO, s_ljO, s_laO, q_get, q_p1, q_p2, s_n2i, s_n2r, s_n2l, s_n2n, q_pad, q_ar, s_ob, s_obO, q_nth, s_ri, s_riO, s_rb, s_rbO, s_rzO, s_rl, s_rlO, s_rq, s_rqO, s_ry, s_ryO, s_dn, s_tl, s_tn, s_ap, s_an, s_ci, s_cr, s_ni, s_n0, s_n1, q_ags, q_cat, List.contains_nil, List.contains_cons, Nat.reduceBEq, Bool.or_false, Bool.false_or, Bool.true_or, Bool.false_eq_true, ↓reduceIte, Nat.le_refl, Nat.zero_le, true_and, and_true, Nat.reduceLeDiff, Nat.reduceAdd, Nat.add_zero, Nat.zero_add, List.length_cons, List.length_nil, List.set_cons_zero, List.set_cons_succ, Nat.reduceLT, s_fi, s_fl, s_fo, s_fa, s_f0, s_f1, s_set, s_ss, lg_cmp_ge, lg_cmp_le, lg_cmp_gt, lg_cmp_lt, lg_cmp_eq, s_brT, s_brF, s_10, w_Fo_hasSums, r_Fo_hasSums, l_Fo_hasSums_0, l_Fo_hasSums_7, l_Fo_hasSums_53, l_Fo_hasSums_59, ml_3_94, w_Fo_tables, kc_0, kb_12, kb_16, f_3_27, ml_3_112, w_Fo_layByEntry, ml_3_116, w_Fo_sum, f_3_23, kc_4, ml_3_98, w_Ta_u32, kc_1, O1', W1', S1']
    refine ⟨fun c => absurd ((nI_leI (by omega) (by omega)).mp c) (by omega), fun _ => ?_⟩
    rw [show (16 : Int32) * nI k = nI (16 * k) from pk_mul 16 k, show (12 : Int32) + nI (16 * k) = nI (12 + 16 * k) from nI_add 12 _]
    refine q_c0 (Nat.le_refl _) (Nat.le_refl _) ?_
    refine c_Fo_layByEntry O1 W1 B1 f2 (by omega) ?_
    generalize hh2 : q_set h' (o + 4) _ = h2
    have g2 : q_1 h h2 (o + 4) := fun b hb => by rw [← hh2, s_ne _ _ hb]; exact f1 b hb
    have S2 : q_Ta h2 (o + 4) (o + 1) (T_p F sz k) (T_l F sz k) := by unfold q_Ta; rw [← hh2]; exact s_set _ _ _
    have O2 : h2 o = some (e_Fo o em gl wd lp) := (g2 o (by omega)).trans hO
    have W2 : q_Ta h2 (o + 3) (o + 1) 0 sz := (g2 (o + 3) (by omega)).trans hW
    have B2 : q_By h2 (o + 1) row m g sz F := hB.mv (g2 _ (by omega)) (g2 _ hr4)
    have O2' := O2
    unfold e_Fo at O2'
    have W2' : h2 (o + 3) = some (.inr (6, [.ref (o + 1), .int (nI 0), .int (nI sz)])) := W2
    have S2' : h2 (o + 4) = some (.inr (6, [.ref (o + 1), .int (nI (T_p F sz k)), .int (nI (T_l F sz k))])) := S2
    simp -implicitDefEqProofs only [s_go, s_nil, s_cons, q_ins, s_op, s_i, s_j, s_a, s_v, s_li, s_lj, s_la, s_liO, s_ljO, s_laO, q_get, q_p1, q_p2, s_n2i, s_n2r, s_n2l, s_n2n, q_pad, q_ar, s_ob, s_obO, q_nth, s_ri, s_riO, s_rb, s_rbO, s_rzO, s_rl, s_rlO, s_rq, s_rqO, s_ry, s_ryO, s_dn, s_tl, s_tn, s_ap, s_an, s_ci, s_cr, s_ni, s_n0, s_n1, q_ags, q_cat, List.contains_nil, List.contains_cons, Nat.reduceBEq, Bool.or_false, Bool.false_or, Bool.true_or, Bool.false_eq_true, ↓reduceIte, Nat.le_refl, Nat.zero_le, true_and, and_true, Nat.reduceLeDiff, Nat.reduceAdd, Nat.add_zero, Nat.zero_add, List.length_cons, List.length_nil, List.set_cons_zero, List.set_cons_succ, Nat.reduceLT, s_fi, s_fl, s_fo, s_fa, s_f0, s_f1, s_set, s_ss, lg_cmp_ge, lg_cmp_le, lg_cmp_gt, lg_cmp_lt, lg_cmp_eq, s_brT, s_brF, s_10, w_Fo_hasSums, r_Fo_hasSums, l_Fo_hasSums_0, l_Fo_hasSums_7, l_Fo_hasSums_53, l_Fo_hasSums_59, ml_3_94, w_Fo_tables, kc_0, kb_12, kb_16, f_3_27, ml_3_112, w_Fo_layByEntry, ml_3_116, w_Fo_sum, f_3_23, kc_4, ml_3_98, w_Ta_u32, kc_1, O2', W2', S2']
    refine q_c0 (Nat.le_refl _) (Nat.le_refl _) ?_
    refine c_Fo_sum S2 B2 (hf.2.2.2.2 k (by omega)).2 ?_
    simp -implicitDefEqProofs only [s_go, s_nil, s_cons, q_ins, s_op, s_i, s_j, s_a, s_v, s_li, s_lj, s_la, s_liO, s_ljO, s_laO, q_get, q_p1, q_p2, s_n2i, s_n2r, s_n2l, s_n2n, q_pad, q_ar, s_ob, s_obO, q_nth, s_ri, s_riO, s_rb, s_rbO, s_rzO, s_rl, s_rlO, s_rq, s_rqO, s_ry, s_ryO, s_dn, s_tl, s_tn, s_ap, s_an, s_ci, s_cr, s_ni, s_n0, s_n1, q_ags, q_cat, List.contains_nil, List.contains_cons, Nat.reduceBEq, Bool.or_false, Bool.false_or, Bool.true_or, Bool.false_eq_true, ↓reduceIte, Nat.le_refl, Nat.zero_le, true_and, and_true, Nat.reduceLeDiff, Nat.reduceAdd, Nat.add_zero, Nat.zero_add, List.length_cons, List.length_nil, List.set_cons_zero, List.set_cons_succ, Nat.reduceLT, s_fi, s_fl, s_fo, s_fa, s_f0, s_f1, s_set, s_ss, lg_cmp_ge, lg_cmp_le, lg_cmp_gt, lg_cmp_lt, lg_cmp_eq, s_brT, s_brF, s_10, w_Fo_hasSums, r_Fo_hasSums, l_Fo_hasSums_0, l_Fo_hasSums_7, l_Fo_hasSums_53, l_Fo_hasSums_59, ml_3_94, w_Fo_tables, kc_0, kb_12, kb_16, f_3_27, ml_3_112, w_Fo_layByEntry, ml_3_116, w_Fo_sum, f_3_23, kc_4, ml_3_98, w_Ta_u32, kc_1, O2', W2', S2']
    rw [show nI (12 + 16 * k) + 4 = nI (12 + 16 * k + 4) from nI_add _ 4]
    refine q_c0 (Nat.le_refl _) (Nat.le_refl _) ?_
    refine c_Ta_u32 W2 B2 (by omega) (by omega) ?_
    simp -implicitDefEqProofs only [s_go, s_nil, s_cons, q_ins, s_op, s_i, s_j, s_a, s_v, s_li, s_lj, s_la, s_liO, s_ljO, s_laO, q_get, q_p1, q_p2, s_n2i, s_n2r, s_n2l, s_n2n, q_pad, q_ar, s_ob, s_obO, q_nth, s_ri, s_riO, s_rb, s_rbO, s_rzO, s_rl, s_rlO, s_rq, s_rqO, s_ry, s_ryO, s_dn, s_tl, s_tn, s_ap, s_an, s_ci, s_cr, s_ni, s_n0, s_n1, q_ags, q_cat, List.contains_nil, List.contains_cons, Nat.reduceBEq, Bool.or_false, Bool.false_or, Bool.true_or, Bool.false_eq_true, ↓reduceIte, Nat.le_refl, Nat.zero_le, true_and, and_true, Nat.reduceLeDiff, Nat.reduceAdd, Nat.add_zero, Nat.zero_add, List.length_cons, List.length_nil, List.set_cons_zero, List.set_cons_succ, Nat.reduceLT, s_fi, s_fl, s_fo, s_fa, s_f0, s_f1, s_set, s_ss, lg_cmp_ge, lg_cmp_le, lg_cmp_gt, lg_cmp_lt, lg_cmp_eq, s_brT, s_brF, s_10, w_Fo_hasSums, r_Fo_hasSums, l_Fo_hasSums_0, l_Fo_hasSums_7, l_Fo_hasSums_53, l_Fo_hasSums_59, ml_3_94, w_Fo_tables, kc_0, kb_12, kb_16, f_3_27, ml_3_112, w_Fo_layByEntry, ml_3_116, w_Fo_sum, f_3_23, kc_4, ml_3_98, w_Ta_u32, kc_1, O2', W2', S2']
    have b1 := U32_lt hF 0 sz (12 + 16 * k + 4)
    rw [pk_lEQ (by omega) (by omega)]
    refine ⟨fun c => ?_, fun c => q0 (fun z => c (z k (by omega))) h2 _ _ g2 S2⟩
    refine q_wk (ih (k + 1) (by omega) (fun j hj => ?_) h2 _ _ g2 S2) ⟨rfl, rfl, by rw [nI_1], trivial⟩
    rcases Nat.lt_or_ge j k with z | z
    · exact hall j z
    · have : j = k := by omega
      subst this
      exact c
set_option maxRecDepth 100000 in
set_option maxHeartbeats 4000000 in
theorem c_Fo_hasSums {G : q_G} {l : Launch} {d o row m n sz st ln : Nat} {em gl wd lp : Int32} {g : Nat → Int32} {F : Nat → Nat} {h : q_H} {Q : q_P} (hO : h o = some (e_Fo o em gl wd lp)) (hW : q_Ta h (o + 3) (o + 1) 0 sz) (hS : q_Ta h (o + 4) (o + 1) st ln) (hB : q_By h (o + 1) row m g sz F) (hf : FILE_ok F sz) (q1 : SUMS_ok F sz → ∀ h' st ln, q_1 h h' (o + 4) → q_Ta h' (o + 4) (o + 1) st ln → Q (some (.int 1)) h' n) (q0 : ¬ SUMS_ok F sz → ∀ h' st ln, q_1 h h' (o + 4) → q_Ta h' (o + 4) (o + 1) st ln → Q (some (.int 0)) h' n) : q_Call G l M_Fo_hasSums (d + 3) 0 0 [.ref o] h n Q := by
  have hO' := hO
  unfold e_Fo at hO'
  refine q_in u_Fo_hasSums (by rw [L_Fo_hasSums]; exact Nat.le_of_ble_eq_true rfl) ?_
  rw [L_Fo_hasSums]
  refine q_at o_Fo_hasSums [7] 20 l_Fo_hasSums_0 ?_
  simp -implicitDefEqProofs only [s_go, s_nil, s_cons, q_ins, s_op, s_i, s_j, s_a, s_v, s_li, s_lj, s_la, s_liO, s_ljO, s_laO, q_get, q_p1, q_p2, s_n2i, s_n2r, s_n2l, s_n2n, q_pad, q_ar, s_ob, s_obO, q_nth, s_ri, s_riO, s_rb, s_rbO, s_rzO, s_rl, s_rlO, s_rq, s_rqO, s_ry, s_ryO, s_dn, s_tl, s_tn, s_ap, s_an, s_ci, s_cr, s_ni, s_n0, s_n1, q_ags, q_cat, List.contains_nil, List.contains_cons, Nat.reduceBEq, Bool.or_false, Bool.false_or, Bool.true_or, Bool.false_eq_true, ↓reduceIte, Nat.le_refl, Nat.zero_le, true_and, and_true, Nat.reduceLeDiff, Nat.reduceAdd, Nat.add_zero, Nat.zero_add, List.length_cons, List.length_nil, List.set_cons_zero, List.set_cons_succ, Nat.reduceLT, s_fi, s_fl, s_fo, s_fa, s_f0, s_f1, s_set, s_ss, lg_cmp_ge, lg_cmp_le, lg_cmp_gt, lg_cmp_lt, lg_cmp_eq, s_brT, s_brF, s_10, w_Fo_hasSums, r_Fo_hasSums, l_Fo_hasSums_0, l_Fo_hasSums_7, l_Fo_hasSums_53, l_Fo_hasSums_59, ml_3_94, w_Fo_tables, kc_0, kb_12, kb_16, f_3_27, ml_3_112, w_Fo_layByEntry, ml_3_116, w_Fo_sum, f_3_23, kc_4, ml_3_98, w_Ta_u32, kc_1, hO']
  refine q_c0 (Nat.le_refl _) (Nat.le_refl _) ?_
  refine c_Fo_tables hO hW hB ?_
  simp -implicitDefEqProofs only [s_go, s_nil, s_cons, q_ins, s_op, s_i, s_j, s_a, s_v, s_li, s_lj, s_la, s_liO, s_ljO, s_laO, q_get, q_p1, q_p2, s_n2i, s_n2r, s_n2l, s_n2n, q_pad, q_ar, s_ob, s_obO, q_nth, s_ri, s_riO, s_rb, s_rbO, s_rzO, s_rl, s_rlO, s_rq, s_rqO, s_ry, s_ryO, s_dn, s_tl, s_tn, s_ap, s_an, s_ci, s_cr, s_ni, s_n0, s_n1, q_ags, q_cat, List.contains_nil, List.contains_cons, Nat.reduceBEq, Bool.or_false, Bool.false_or, Bool.true_or, Bool.false_eq_true, ↓reduceIte, Nat.le_refl, Nat.zero_le, true_and, and_true, Nat.reduceLeDiff, Nat.reduceAdd, Nat.add_zero, Nat.zero_add, List.length_cons, List.length_nil, List.set_cons_zero, List.set_cons_succ, Nat.reduceLT, s_fi, s_fl, s_fo, s_fa, s_f0, s_f1, s_set, s_ss, lg_cmp_ge, lg_cmp_le, lg_cmp_gt, lg_cmp_lt, lg_cmp_eq, s_brT, s_brF, s_10, w_Fo_hasSums, r_Fo_hasSums, l_Fo_hasSums_0, l_Fo_hasSums_7, l_Fo_hasSums_53, l_Fo_hasSums_59, ml_3_94, w_Fo_tables, kc_0, kb_12, kb_16, f_3_27, ml_3_112, w_Fo_layByEntry, ml_3_116, w_Fo_sum, f_3_23, kc_4, ml_3_98, w_Ta_u32, kc_1, hO']
  exact z_Fo_hasSums hO hW hB hf (hB.ne hS) q1 q0 (NT F sz) 0 (by omega) (fun j hj => absurd hj (by omega)) h st ln (fun _ _ => rfl) hS
/-- the first table of a name, from k on among r -/
def FKr (F : Nat → Nat) (sz nm : Nat) : Nat → Nat → Option Nat
  | _, 0 => none
  | k, r + 1 => if T_n F sz k = nm then some k else FKr F sz nm (k + 1) r
def FK (F : Nat → Nat) (sz nm : Nat) : Option Nat := FKr F sz nm 0 (NT F sz)
set_option maxRecDepth 100000 in
set_option maxHeartbeats 4000000 in
theorem z_Fo_finds {G : q_G} {l : Launch} {d o a row m n sz nm st ln : Nat} {em gl wd lp : Int32} {g : Nat → Int32} {F : Nat → Nat} {h : q_H} {Q : q_P} (hO : h o = some (e_Fo o em gl wd lp)) (hW : q_Ta h (o + 3) (o + 1) 0 sz) (hB : q_By h (o + 1) row m g sz F) (hT : q_Ta h a (o + 1) st ln) (hN : NT F sz ≤ 64) (hnm : nm < 2 ^ 31) :
    ∀ (r k : Nat), k + r = NT F sz → (∀ j, FKr F sz nm k r = some j → Q (some (.int 1)) (q_set h a (.inr (6, [.ref (o + 1), .int (nI (T_p F sz j)), .int (nI (T_l F sz j))]))) n) → (FKr F sz nm k r = none → Q (some (.int 0)) h n) → q_Z G l M_Fo_finds (d + 3) 0 0 Q 8 [some (.ref o), some (.ref a), some (.int (nI nm)), some (.int (nI (NT F sz))), some (.int (nI k)), none] [] h n 0 0 := by
  have hF := hB.2.2.2.2.2.2
  have hO' := hO
  unfold e_Fo at hO'
  have hW' : h (o + 3) = some (.inr (6, [.ref (o + 1), .int (nI 0), .int (nI sz)])) := hW
  have hT' : h a = some (.inr (6, [.ref (o + 1), .int (nI st), .int (nI ln)])) := hT
  intro r
  induction r with
  | zero =>
    intro k hk q1 q0
    refine q_at o_Fo_finds [8] 20 l_Fo_finds_8 ?_
    simp -implicitDefEqProofs only [s_go, s_nil, s_cons, q_ins, s_op, s_i, s_j, s_a, s_v, s_li, s_lj, s_la, s_liO, s_ljO, s_laO, q_get, q_p1, q_p2, s_n2i, s_n2r, s_n2l, s_n2n, q_pad, q_ar, s_ob, s_obO, q_nth, s_ri, s_riO, s_rb, s_rbO, s_rzO, s_rl, s_rlO, s_rq, s_rqO, s_ry, s_ryO, s_dn, s_tl, s_tn, s_ap, s_an, s_ci, s_cr, s_ni, s_n0, s_n1, q_ags, q_cat, List.contains_nil, List.contains_cons, Nat.reduceBEq, Bool.or_false, Bool.false_or, Bool.true_or, Bool.false_eq_true, ↓reduceIte, Nat.le_refl, Nat.zero_le, true_and, and_true, Nat.reduceLeDiff, Nat.reduceAdd, Nat.add_zero, Nat.zero_add, List.length_cons, List.length_nil, List.set_cons_zero, List.set_cons_succ, Nat.reduceLT, s_fi, s_fl, s_fo, s_fa, s_f0, s_f1, s_set, s_ss, lg_cmp_ge, lg_cmp_le, lg_cmp_gt, lg_cmp_lt, lg_cmp_eq, s_brT, s_brF, s_10, w_Fo_finds, r_Fo_finds, l_Fo_finds_0, l_Fo_finds_8, l_Fo_finds_48, l_Fo_finds_54, ml_3_94, w_Fo_tables, kc_0, kb_12, kb_16, f_3_23, ml_3_98, w_Ta_u32, ml_3_112, w_Fo_layByEntry, kc_1, hO', hW', hT']
    exact ⟨fun _ => q0 rfl, fun c => absurd (nI_le (by omega) (by omega)) c⟩
  | succ r ih =>
    intro k hk q1 q0
    refine q_at o_Fo_finds [8] 20 l_Fo_finds_8 ?_
    simp -implicitDefEqProofs only [s_go, s_nil, s_cons, q_ins, s_op, s_i, s_j, s_a, s_v, s_li, s_lj, s_la, s_liO, s_ljO, s_laO, q_get, q_p1, q_p2, s_n2i, s_n2r, s_n2l, s_n2n, q_pad, q_ar, s_ob, s_obO, q_nth, s_ri, s_riO, s_rb, s_rbO, s_rzO, s_rl, s_rlO, s_rq, s_rqO, s_ry, s_ryO, s_dn, s_tl, s_tn, s_ap, s_an, s_ci, s_cr, s_ni, s_n0, s_n1, q_ags, q_cat, List.contains_nil, List.contains_cons, Nat.reduceBEq, Bool.or_false, Bool.false_or, Bool.true_or, Bool.false_eq_true, ↓reduceIte, Nat.le_refl, Nat.zero_le, true_and, and_true, Nat.reduceLeDiff, Nat.reduceAdd, Nat.add_zero, Nat.zero_add, List.length_cons, List.length_nil, List.set_cons_zero, List.set_cons_succ, Nat.reduceLT, s_fi, s_fl, s_fo, s_fa, s_f0, s_f1, s_set, s_ss, lg_cmp_ge, lg_cmp_le, lg_cmp_gt, lg_cmp_lt, lg_cmp_eq, s_brT, s_brF, s_10, w_Fo_finds, r_Fo_finds, l_Fo_finds_0, l_Fo_finds_8, l_Fo_finds_48, l_Fo_finds_54, ml_3_94, w_Fo_tables, kc_0, kb_12, kb_16, f_3_23, ml_3_98, w_Ta_u32, ml_3_112, w_Fo_layByEntry, kc_1, hO', hW', hT']
    refine ⟨fun c => absurd ((nI_leI (by omega) (by omega)).mp c) (by omega), fun _ => ?_⟩
    rw [show (16 : Int32) * nI k = nI (16 * k) from pk_mul 16 k, show (12 : Int32) + nI (16 * k) = nI (12 + 16 * k) from nI_add 12 _]
    refine q_c0 (Nat.le_refl _) (Nat.le_refl _) ?_
    refine c_Ta_u32 hW hB (by omega) (by omega) ?_
    simp -implicitDefEqProofs only [s_go, s_nil, s_cons, q_ins, s_op, s_i, s_j, s_a, s_v, s_li, s_lj, s_la, s_liO, s_ljO, s_laO, q_get, q_p1, q_p2, s_n2i, s_n2r, s_n2l, s_n2n, q_pad, q_ar, s_ob, s_obO, q_nth, s_ri, s_riO, s_rb, s_rbO, s_rzO, s_rl, s_rlO, s_rq, s_rqO, s_ry, s_ryO, s_dn, s_tl, s_tn, s_ap, s_an, s_ci, s_cr, s_ni, s_n0, s_n1, q_ags, q_cat, List.contains_nil, List.contains_cons, Nat.reduceBEq, Bool.or_false, Bool.false_or, Bool.true_or, Bool.false_eq_true, ↓reduceIte, Nat.le_refl, Nat.zero_le, true_and, and_true, Nat.reduceLeDiff, Nat.reduceAdd, Nat.add_zero, Nat.zero_add, List.length_cons, List.length_nil, List.set_cons_zero, List.set_cons_succ, Nat.reduceLT, s_fi, s_fl, s_fo, s_fa, s_f0, s_f1, s_set, s_ss, lg_cmp_ge, lg_cmp_le, lg_cmp_gt, lg_cmp_lt, lg_cmp_eq, s_brT, s_brF, s_10, w_Fo_finds, r_Fo_finds, l_Fo_finds_0, l_Fo_finds_8, l_Fo_finds_48, l_Fo_finds_54, ml_3_94, w_Fo_tables, kc_0, kb_12, kb_16, f_3_23, ml_3_98, w_Ta_u32, ml_3_112, w_Fo_layByEntry, kc_1, hO', hW', hT', nI_l hnm]
    have b1 := U32_lt hF 0 sz (12 + 16 * k)
    rw [pk_lEQ (by omega) (by omega)]
    refine ⟨fun c => ?_, fun c => ?_⟩
    · refine q_c0 (Nat.le_refl _) (Nat.le_refl _) ?_
      refine c_Fo_layByEntry hO hW hB hT (by omega) ?_
      simp -implicitDefEqProofs only [s_go, s_nil, s_cons, q_ins, s_op, s_i, s_j, s_a, s_v, s_li, s_lj, s_la, s_liO, s_ljO, s_laO, q_get, q_p1, q_p2, s_n2i, s_n2r, s_n2l, s_n2n, q_pad, q_ar, s_ob, s_obO, q_nth, s_ri, s_riO, s_rb, s_rbO, s_rzO, s_rl, s_rlO, s_rq, s_rqO, s_ry, s_ryO, s_dn, s_tl, s_tn, s_ap, s_an, s_ci, s_cr, s_ni, s_n0, s_n1, q_ags, q_cat, List.contains_nil, List.contains_cons, Nat.reduceBEq, Bool.or_false, Bool.false_or, Bool.true_or, Bool.false_eq_true, ↓reduceIte, Nat.le_refl, Nat.zero_le, true_and, and_true, Nat.reduceLeDiff, Nat.reduceAdd, Nat.add_zero, Nat.zero_add, List.length_cons, List.length_nil, List.set_cons_zero, List.set_cons_succ, Nat.reduceLT, s_fi, s_fl, s_fo, s_fa, s_f0, s_f1, s_set, s_ss, lg_cmp_ge, lg_cmp_le, lg_cmp_gt, lg_cmp_lt, lg_cmp_eq, s_brT, s_brF, s_10, w_Fo_finds, r_Fo_finds, l_Fo_finds_0, l_Fo_finds_8, l_Fo_finds_48, l_Fo_finds_54, ml_3_94, w_Fo_tables, kc_0, kb_12, kb_16, f_3_23, ml_3_98, w_Ta_u32, ml_3_112, w_Fo_layByEntry, kc_1]
      have c : T_n F sz k = nm := c
      exact q1 k (by unfold FKr; rw [if_pos c])
    · have c : ¬ T_n F sz k = nm := c
      have e : FKr F sz nm k (r + 1) = FKr F sz nm (k + 1) r := by
        show (if T_n F sz k = nm then some k else FKr F sz nm (k + 1) r) = _
        rw [if_neg c]
      rw [e] at q1 q0
      exact q_wk (ih (k + 1) (by omega) q1 q0) ⟨rfl, rfl, rfl, rfl, by rw [nI_1], trivial⟩
set_option maxRecDepth 100000 in
set_option maxHeartbeats 4000000 in
theorem c_Fo_finds {G : q_G} {l : Launch} {d o a row m n sz nm st ln : Nat} {em gl wd lp : Int32} {g : Nat → Int32} {F : Nat → Nat} {h : q_H} {Q : q_P} (hO : h o = some (e_Fo o em gl wd lp)) (hW : q_Ta h (o + 3) (o + 1) 0 sz) (hB : q_By h (o + 1) row m g sz F) (hT : q_Ta h a (o + 1) st ln) (hN : NT F sz ≤ 64) (hnm : nm < 2 ^ 31)
    (q1 : ∀ j, FK F sz nm = some j → Q (some (.int 1)) (q_set h a (.inr (6, [.ref (o + 1), .int (nI (T_p F sz j)), .int (nI (T_l F sz j))]))) n) (q0 : FK F sz nm = none → Q (some (.int 0)) h n) : q_Call G l M_Fo_finds (d + 3) 0 0 [.ref o, .ref a, .int (nI nm)] h n Q := by
  have hO' := hO
  unfold e_Fo at hO'
  refine q_in u_Fo_finds (by rw [L_Fo_finds]; exact Nat.le_of_ble_eq_true rfl) ?_
  rw [L_Fo_finds]
  refine q_at o_Fo_finds [8] 20 l_Fo_finds_0 ?_
  simp -implicitDefEqProofs only [s_go, s_nil, s_cons, q_ins, s_op, s_i, s_j, s_a, s_v, s_li, s_lj, s_la, s_liO, s_ljO, s_laO, q_get, q_p1, q_p2, s_n2i, s_n2r, s_n2l, s_n2n, q_pad, q_ar, s_ob, s_obO, q_nth, s_ri, s_riO, s_rb, s_rbO, s_rzO, s_rl, s_rlO, s_rq, s_rqO, s_ry, s_ryO, s_dn, s_tl, s_tn, s_ap, s_an, s_ci, s_cr, s_ni, s_n0, s_n1, q_ags, q_cat, List.contains_nil, List.contains_cons, Nat.reduceBEq, Bool.or_false, Bool.false_or, Bool.true_or, Bool.false_eq_true, ↓reduceIte, Nat.le_refl, Nat.zero_le, true_and, and_true, Nat.reduceLeDiff, Nat.reduceAdd, Nat.add_zero, Nat.zero_add, List.length_cons, List.length_nil, List.set_cons_zero, List.set_cons_succ, Nat.reduceLT, s_fi, s_fl, s_fo, s_fa, s_f0, s_f1, s_set, s_ss, lg_cmp_ge, lg_cmp_le, lg_cmp_gt, lg_cmp_lt, lg_cmp_eq, s_brT, s_brF, s_10, w_Fo_finds, r_Fo_finds, l_Fo_finds_0, l_Fo_finds_8, l_Fo_finds_48, l_Fo_finds_54, ml_3_94, w_Fo_tables, kc_0, kb_12, kb_16, f_3_23, ml_3_98, w_Ta_u32, ml_3_112, w_Fo_layByEntry, kc_1, hO']
  refine q_c0 (Nat.le_refl _) (Nat.le_refl _) ?_
  refine c_Fo_tables hO hW hB ?_
  simp -implicitDefEqProofs only [s_go, s_nil, s_cons, q_ins, s_op, s_i, s_j, s_a, s_v, s_li, s_lj, s_la, s_liO, s_ljO, s_laO, q_get, q_p1, q_p2, s_n2i, s_n2r, s_n2l, s_n2n, q_pad, q_ar, s_ob, s_obO, q_nth, s_ri, s_riO, s_rb, s_rbO, s_rzO, s_rl, s_rlO, s_rq, s_rqO, s_ry, s_ryO, s_dn, s_tl, s_tn, s_ap, s_an, s_ci, s_cr, s_ni, s_n0, s_n1, q_ags, q_cat, List.contains_nil, List.contains_cons, Nat.reduceBEq, Bool.or_false, Bool.false_or, Bool.true_or, Bool.false_eq_true, ↓reduceIte, Nat.le_refl, Nat.zero_le, true_and, and_true, Nat.reduceLeDiff, Nat.reduceAdd, Nat.add_zero, Nat.zero_add, List.length_cons, List.length_nil, List.set_cons_zero, List.set_cons_succ, Nat.reduceLT, s_fi, s_fl, s_fo, s_fa, s_f0, s_f1, s_set, s_ss, lg_cmp_ge, lg_cmp_le, lg_cmp_gt, lg_cmp_lt, lg_cmp_eq, s_brT, s_brF, s_10, w_Fo_finds, r_Fo_finds, l_Fo_finds_0, l_Fo_finds_8, l_Fo_finds_48, l_Fo_finds_54, ml_3_94, w_Fo_tables, kc_0, kb_12, kb_16, f_3_23, ml_3_98, w_Ta_u32, ml_3_112, w_Fo_layByEntry, kc_1, hO']
  exact z_Fo_finds hO hW hB hT hN hnm (NT F sz) 0 (by omega) q1 q0
def nms : List Nat := [1668112752, 1735162214, 1751474532, 1751672161, 1752003704, 1819239265, 1835104368]
/-- the tables 5 .. 11 of the font o are there, whatever they show -/
def q_TJ (h : q_H) (o : Nat) : Prop := ∀ i, 5 ≤ i → i ≤ 11 → ∃ st ln, q_Ta h (o + i) (o + 1) st ln
theorem q_TJ.set {h : q_H} {o : Nat} (hJ : q_TJ h o) (i st ln : Nat) : q_TJ (q_set h (o + i) (.inr (6, [.ref (o + 1), .int (nI st), .int (nI ln)]))) o := by
  intro j h1 h2
  by_cases hj : j = i
  · subst hj; exact ⟨st, ln, s_set _ _ _⟩
  · obtain ⟨st', ln', h3⟩ := hJ j h1 h2
    exact ⟨st', ln', by unfold q_Ta; rw [s_ne _ _ (by omega)]; exact h3⟩
/-- cells of the tables 5 .. 11 alone have changed -/
def q_fT (h h' : q_H) (o : Nat) : Prop := ∀ b, (b < o + 5 ∨ o + 11 < b) → h' b = h b
theorem q_fT.set {h h' : q_H} {o : Nat} (hf : q_fT h h' o) {i : Nat} (h5 : 5 ≤ i) (h11 : i ≤ 11) (e : q_E) : q_fT h (q_set h' (o + i) e) o := fun b hb => by rw [s_ne _ _ (by omega)]; exact hf b hb
set_option maxRecDepth 100000 in
set_option maxHeartbeats 4000000 in
theorem c_Fo_hasTables {G : q_G} {l : Launch} {d o row m n sz : Nat} {em gl wd lp : Int32} {g : Nat → Int32} {F : Nat → Nat} {h : q_H} {Q : q_P} (hO : h o = some (e_Fo o em gl wd lp)) (hW : q_Ta h (o + 3) (o + 1) 0 sz) (hB : q_By h (o + 1) row m g sz F) (hJ : q_TJ h o) (hrow : row < o + 5 ∨ o + 11 < row) (hN : NT F sz ≤ 64)
    (q1 : ∀ j0 j1 j2 j3 j4 j5 j6, FK F sz 1668112752 = some j0 → FK F sz 1735162214 = some j1 → FK F sz 1751474532 = some j2 → FK F sz 1751672161 = some j3 → FK F sz 1752003704 = some j4 → FK F sz 1819239265 = some j5 → FK F sz 1835104368 = some j6 → ∀ h', q_fT h h' o → q_Ta h' (o + 5) (o + 1) (T_p F sz j0) (T_l F sz j0) → q_Ta h' (o + 6) (o + 1) (T_p F sz j1) (T_l F sz j1) → q_Ta h' (o + 7) (o + 1) (T_p F sz j2) (T_l F sz j2) → q_Ta h' (o + 8) (o + 1) (T_p F sz j3) (T_l F sz j3) → q_Ta h' (o + 9) (o + 1) (T_p F sz j4) (T_l F sz j4) → q_Ta h' (o + 10) (o + 1) (T_p F sz j5) (T_l F sz j5) → q_Ta h' (o + 11) (o + 1) (T_p F sz j6) (T_l F sz j6) → Q (some (.int 1)) h' n)
    (q0 : (FK F sz 1668112752 = none ∨ FK F sz 1735162214 = none ∨ FK F sz 1751474532 = none ∨ FK F sz 1751672161 = none ∨ FK F sz 1752003704 = none ∨ FK F sz 1819239265 = none ∨ FK F sz 1835104368 = none) → ∀ h', q_fT h h' o → q_TJ h' o → Q (some (.int 0)) h' n) : q_Call G l M_Fo_hasTables (d + 4) 0 0 [.ref o] h n Q := by
  have f0 : q_fT h h o := fun _ _ => rfl
  have O : ∀ h', q_fT h h' o → h' o = some (e_Fo o em gl wd lp) := fun h' f => (f o (by omega)).trans hO
  have W : ∀ h', q_fT h h' o → q_Ta h' (o + 3) (o + 1) 0 sz := fun h' f => (f (o + 3) (by omega)).trans hW
  have B : ∀ h', q_fT h h' o → q_By h' (o + 1) row m g sz F := fun h' f => hB.mv (f _ (by omega)) (f _ hrow)
  have O' : ∀ h', q_fT h h' o → h' o = _ := fun h' f => (O h' f).trans (by unfold e_Fo; rfl)
  refine q_in u_Fo_hasTables (by rw [L_Fo_hasTables]; exact Nat.le_of_ble_eq_true rfl) ?_
  rw [L_Fo_hasTables]
  refine q_at o_Fo_hasTables [] 20 l_Fo_hasTables_0 ?_
  simp -implicitDefEqProofs only [s_go, s_nil, s_cons, q_ins, s_op, s_i, s_j, s_a, s_v, s_li, s_lj, s_la, s_liO, s_ljO, s_laO, q_get, q_p1, q_p2, s_n2i, s_n2r, s_n2l, s_n2n, q_pad, q_ar, s_ob, s_obO, q_nth, s_ri, s_riO, s_rb, s_rbO, s_rzO, s_rl, s_rlO, s_rq, s_rqO, s_ry, s_ryO, s_dn, s_tl, s_tn, s_ap, s_an, s_ci, s_cr, s_ni, s_n0, s_n1, q_ags, q_cat, List.contains_nil, List.contains_cons, Nat.reduceBEq, Bool.or_false, Bool.false_or, Bool.true_or, Bool.false_eq_true, ↓reduceIte, Nat.le_refl, Nat.zero_le, true_and, and_true, Nat.reduceLeDiff, Nat.reduceAdd, Nat.add_zero, Nat.zero_add, List.length_cons, List.length_nil, List.set_cons_zero, List.set_cons_succ, Nat.reduceLT, s_fi, s_fl, s_fo, s_fa, s_f0, s_f1, s_set, s_ss, lg_cmp_ge, lg_cmp_le, lg_cmp_gt, lg_cmp_lt, lg_cmp_eq, s_brT, s_brF, s_10, w_Fo_hasTables, r_Fo_hasTables, l_Fo_hasTables_0, l_Fo_hasTables_95, l_Fo_hasTables_96, f_3_30, ki_3_125, ml_3_126, w_Fo_finds, f_3_33, ki_3_130, f_3_36, ki_3_131, f_3_39, ki_3_132, f_3_42, ki_3_133, f_3_45, ki_3_134, f_3_48, ki_3_135, kc_1, kc_0, O' h f0]
  obtain ⟨st0, ln0, T0⟩ := hJ 5 (by omega) (by omega)
  refine q_c0 (Nat.le_refl _) (Nat.le_refl _) ?_
  refine c_Fo_finds (nm := 1668112752) (O _ f0) (W _ f0) (B _ f0) T0 hN (by omega) (fun j0 k0 => ?_) (fun z => ?_)
  rotate_left
  · simp -implicitDefEqProofs only [s_go, s_nil, s_cons, q_ins, s_op, s_i, s_j, s_a, s_v, s_li, s_lj, s_la, s_liO, s_ljO, s_laO, q_get, q_p1, q_p2, s_n2i, s_n2r, s_n2l, s_n2n, q_pad, q_ar, s_ob, s_obO, q_nth, s_ri, s_riO, s_rb, s_rbO, s_rzO, s_rl, s_rlO, s_rq, s_rqO, s_ry, s_ryO, s_dn, s_tl, s_tn, s_ap, s_an, s_ci, s_cr, s_ni, s_n0, s_n1, q_ags, q_cat, List.contains_nil, List.contains_cons, Nat.reduceBEq, Bool.or_false, Bool.false_or, Bool.true_or, Bool.false_eq_true, ↓reduceIte, Nat.le_refl, Nat.zero_le, true_and, and_true, Nat.reduceLeDiff, Nat.reduceAdd, Nat.add_zero, Nat.zero_add, List.length_cons, List.length_nil, List.set_cons_zero, List.set_cons_succ, Nat.reduceLT, s_fi, s_fl, s_fo, s_fa, s_f0, s_f1, s_set, s_ss, lg_cmp_ge, lg_cmp_le, lg_cmp_gt, lg_cmp_lt, lg_cmp_eq, s_brT, s_brF, s_10, w_Fo_hasTables, r_Fo_hasTables, l_Fo_hasTables_0, l_Fo_hasTables_95, l_Fo_hasTables_96, f_3_30, ki_3_125, ml_3_126, w_Fo_finds, f_3_33, ki_3_130, f_3_36, ki_3_131, f_3_39, ki_3_132, f_3_42, ki_3_133, f_3_45, ki_3_134, f_3_48, ki_3_135, kc_1, kc_0, O' _ f0]
    exact q0 (Or.inl z) _ f0 hJ
  generalize hh1 : q_set h (o + 5) _ = h1
  have f1 : q_fT h h1 o := by rw [← hh1]; exact f0.set (by omega) (by omega) _
  have J1 : q_TJ h1 o := by rw [← hh1]; exact hJ.set 5 _ _
  have S1_0 : q_Ta h1 (o + 5) (o + 1) (T_p F sz j0) (T_l F sz j0) := by unfold q_Ta; rw [← hh1]; exact s_set _ _ _
  simp -implicitDefEqProofs only [s_go, s_nil, s_cons, q_ins, s_op, s_i, s_j, s_a, s_v, s_li, s_lj, s_la, s_liO, s_ljO, s_laO, q_get, q_p1, q_p2, s_n2i, s_n2r, s_n2l, s_n2n, q_pad, q_ar, s_ob, s_obO, q_nth, s_ri, s_riO, s_rb, s_rbO, s_rzO, s_rl, s_rlO, s_rq, s_rqO, s_ry, s_ryO, s_dn, s_tl, s_tn, s_ap, s_an, s_ci, s_cr, s_ni, s_n0, s_n1, q_ags, q_cat, List.contains_nil, List.contains_cons, Nat.reduceBEq, Bool.or_false, Bool.false_or, Bool.true_or, Bool.false_eq_true, ↓reduceIte, Nat.le_refl, Nat.zero_le, true_and, and_true, Nat.reduceLeDiff, Nat.reduceAdd, Nat.add_zero, Nat.zero_add, List.length_cons, List.length_nil, List.set_cons_zero, List.set_cons_succ, Nat.reduceLT, s_fi, s_fl, s_fo, s_fa, s_f0, s_f1, s_set, s_ss, lg_cmp_ge, lg_cmp_le, lg_cmp_gt, lg_cmp_lt, lg_cmp_eq, s_brT, s_brF, s_10, w_Fo_hasTables, r_Fo_hasTables, l_Fo_hasTables_0, l_Fo_hasTables_95, l_Fo_hasTables_96, f_3_30, ki_3_125, ml_3_126, w_Fo_finds, f_3_33, ki_3_130, f_3_36, ki_3_131, f_3_39, ki_3_132, f_3_42, ki_3_133, f_3_45, ki_3_134, f_3_48, ki_3_135, kc_1, kc_0, O' _ f1]
  obtain ⟨st1, ln1, T1⟩ := J1 6 (by omega) (by omega)
  refine q_c0 (Nat.le_refl _) (Nat.le_refl _) ?_
  refine c_Fo_finds (nm := 1735162214) (O _ f1) (W _ f1) (B _ f1) T1 hN (by omega) (fun j1 k1 => ?_) (fun z => ?_)
  rotate_left
  · simp -implicitDefEqProofs only [s_go, s_nil, s_cons, q_ins, s_op, s_i, s_j, s_a, s_v, s_li, s_lj, s_la, s_liO, s_ljO, s_laO, q_get, q_p1, q_p2, s_n2i, s_n2r, s_n2l, s_n2n, q_pad, q_ar, s_ob, s_obO, q_nth, s_ri, s_riO, s_rb, s_rbO, s_rzO, s_rl, s_rlO, s_rq, s_rqO, s_ry, s_ryO, s_dn, s_tl, s_tn, s_ap, s_an, s_ci, s_cr, s_ni, s_n0, s_n1, q_ags, q_cat, List.contains_nil, List.contains_cons, Nat.reduceBEq, Bool.or_false, Bool.false_or, Bool.true_or, Bool.false_eq_true, ↓reduceIte, Nat.le_refl, Nat.zero_le, true_and, and_true, Nat.reduceLeDiff, Nat.reduceAdd, Nat.add_zero, Nat.zero_add, List.length_cons, List.length_nil, List.set_cons_zero, List.set_cons_succ, Nat.reduceLT, s_fi, s_fl, s_fo, s_fa, s_f0, s_f1, s_set, s_ss, lg_cmp_ge, lg_cmp_le, lg_cmp_gt, lg_cmp_lt, lg_cmp_eq, s_brT, s_brF, s_10, w_Fo_hasTables, r_Fo_hasTables, l_Fo_hasTables_0, l_Fo_hasTables_95, l_Fo_hasTables_96, f_3_30, ki_3_125, ml_3_126, w_Fo_finds, f_3_33, ki_3_130, f_3_36, ki_3_131, f_3_39, ki_3_132, f_3_42, ki_3_133, f_3_45, ki_3_134, f_3_48, ki_3_135, kc_1, kc_0, O' _ f1]
    exact q0 (Or.inr (Or.inl z)) _ f1 J1
  generalize hh2 : q_set h1 (o + 6) _ = h2
  have f2 : q_fT h h2 o := by rw [← hh2]; exact f1.set (by omega) (by omega) _
  have J2 : q_TJ h2 o := by rw [← hh2]; exact J1.set 6 _ _
  have S2_0 : q_Ta h2 (o + 5) (o + 1) (T_p F sz j0) (T_l F sz j0) := by unfold q_Ta; rw [← hh2, s_ne _ _ (by omega)]; exact S1_0
  have S2_1 : q_Ta h2 (o + 6) (o + 1) (T_p F sz j1) (T_l F sz j1) := by unfold q_Ta; rw [← hh2]; exact s_set _ _ _
  simp -implicitDefEqProofs only [s_go, s_nil, s_cons, q_ins, s_op, s_i, s_j, s_a, s_v, s_li, s_lj, s_la, s_liO, s_ljO, s_laO, q_get, q_p1, q_p2, s_n2i, s_n2r, s_n2l, s_n2n, q_pad, q_ar, s_ob, s_obO, q_nth, s_ri, s_riO, s_rb, s_rbO, s_rzO, s_rl, s_rlO, s_rq, s_rqO, s_ry, s_ryO, s_dn, s_tl, s_tn, s_ap, s_an, s_ci, s_cr, s_ni, s_n0, s_n1, q_ags, q_cat, List.contains_nil, List.contains_cons, Nat.reduceBEq, Bool.or_false, Bool.false_or, Bool.true_or, Bool.false_eq_true, ↓reduceIte, Nat.le_refl, Nat.zero_le, true_and, and_true, Nat.reduceLeDiff, Nat.reduceAdd, Nat.add_zero, Nat.zero_add, List.length_cons, List.length_nil, List.set_cons_zero, List.set_cons_succ, Nat.reduceLT, s_fi, s_fl, s_fo, s_fa, s_f0, s_f1, s_set, s_ss, lg_cmp_ge, lg_cmp_le, lg_cmp_gt, lg_cmp_lt, lg_cmp_eq, s_brT, s_brF, s_10, w_Fo_hasTables, r_Fo_hasTables, l_Fo_hasTables_0, l_Fo_hasTables_95, l_Fo_hasTables_96, f_3_30, ki_3_125, ml_3_126, w_Fo_finds, f_3_33, ki_3_130, f_3_36, ki_3_131, f_3_39, ki_3_132, f_3_42, ki_3_133, f_3_45, ki_3_134, f_3_48, ki_3_135, kc_1, kc_0, O' _ f2]
  obtain ⟨st2, ln2, T2⟩ := J2 7 (by omega) (by omega)
  refine q_c0 (Nat.le_refl _) (Nat.le_refl _) ?_
  refine c_Fo_finds (nm := 1751474532) (O _ f2) (W _ f2) (B _ f2) T2 hN (by omega) (fun j2 k2 => ?_) (fun z => ?_)
  rotate_left
  · simp -implicitDefEqProofs only [s_go, s_nil, s_cons, q_ins, s_op, s_i, s_j, s_a, s_v, s_li, s_lj, s_la, s_liO, s_ljO, s_laO, q_get, q_p1, q_p2, s_n2i, s_n2r, s_n2l, s_n2n, q_pad, q_ar, s_ob, s_obO, q_nth, s_ri, s_riO, s_rb, s_rbO, s_rzO, s_rl, s_rlO, s_rq, s_rqO, s_ry, s_ryO, s_dn, s_tl, s_tn, s_ap, s_an, s_ci, s_cr, s_ni, s_n0, s_n1, q_ags, q_cat, List.contains_nil, List.contains_cons, Nat.reduceBEq, Bool.or_false, Bool.false_or, Bool.true_or, Bool.false_eq_true, ↓reduceIte, Nat.le_refl, Nat.zero_le, true_and, and_true, Nat.reduceLeDiff, Nat.reduceAdd, Nat.add_zero, Nat.zero_add, List.length_cons, List.length_nil, List.set_cons_zero, List.set_cons_succ, Nat.reduceLT, s_fi, s_fl, s_fo, s_fa, s_f0, s_f1, s_set, s_ss, lg_cmp_ge, lg_cmp_le, lg_cmp_gt, lg_cmp_lt, lg_cmp_eq, s_brT, s_brF, s_10, w_Fo_hasTables, r_Fo_hasTables, l_Fo_hasTables_0, l_Fo_hasTables_95, l_Fo_hasTables_96, f_3_30, ki_3_125, ml_3_126, w_Fo_finds, f_3_33, ki_3_130, f_3_36, ki_3_131, f_3_39, ki_3_132, f_3_42, ki_3_133, f_3_45, ki_3_134, f_3_48, ki_3_135, kc_1, kc_0, O' _ f2]
    exact q0 (Or.inr (Or.inr (Or.inl z))) _ f2 J2
  generalize hh3 : q_set h2 (o + 7) _ = h3
  have f3 : q_fT h h3 o := by rw [← hh3]; exact f2.set (by omega) (by omega) _
  have J3 : q_TJ h3 o := by rw [← hh3]; exact J2.set 7 _ _
  have S3_0 : q_Ta h3 (o + 5) (o + 1) (T_p F sz j0) (T_l F sz j0) := by unfold q_Ta; rw [← hh3, s_ne _ _ (by omega)]; exact S2_0
  have S3_1 : q_Ta h3 (o + 6) (o + 1) (T_p F sz j1) (T_l F sz j1) := by unfold q_Ta; rw [← hh3, s_ne _ _ (by omega)]; exact S2_1
  have S3_2 : q_Ta h3 (o + 7) (o + 1) (T_p F sz j2) (T_l F sz j2) := by unfold q_Ta; rw [← hh3]; exact s_set _ _ _
  simp -implicitDefEqProofs only [s_go, s_nil, s_cons, q_ins, s_op, s_i, s_j, s_a, s_v, s_li, s_lj, s_la, s_liO, s_ljO, s_laO, q_get, q_p1, q_p2, s_n2i, s_n2r, s_n2l, s_n2n, q_pad, q_ar, s_ob, s_obO, q_nth, s_ri, s_riO, s_rb, s_rbO, s_rzO, s_rl, s_rlO, s_rq, s_rqO, s_ry, s_ryO, s_dn, s_tl, s_tn, s_ap, s_an, s_ci, s_cr, s_ni, s_n0, s_n1, q_ags, q_cat, List.contains_nil, List.contains_cons, Nat.reduceBEq, Bool.or_false, Bool.false_or, Bool.true_or, Bool.false_eq_true, ↓reduceIte, Nat.le_refl, Nat.zero_le, true_and, and_true, Nat.reduceLeDiff, Nat.reduceAdd, Nat.add_zero, Nat.zero_add, List.length_cons, List.length_nil, List.set_cons_zero, List.set_cons_succ, Nat.reduceLT, s_fi, s_fl, s_fo, s_fa, s_f0, s_f1, s_set, s_ss, lg_cmp_ge, lg_cmp_le, lg_cmp_gt, lg_cmp_lt, lg_cmp_eq, s_brT, s_brF, s_10, w_Fo_hasTables, r_Fo_hasTables, l_Fo_hasTables_0, l_Fo_hasTables_95, l_Fo_hasTables_96, f_3_30, ki_3_125, ml_3_126, w_Fo_finds, f_3_33, ki_3_130, f_3_36, ki_3_131, f_3_39, ki_3_132, f_3_42, ki_3_133, f_3_45, ki_3_134, f_3_48, ki_3_135, kc_1, kc_0, O' _ f3]
  obtain ⟨st3, ln3, T3⟩ := J3 8 (by omega) (by omega)
  refine q_c0 (Nat.le_refl _) (Nat.le_refl _) ?_
  refine c_Fo_finds (nm := 1751672161) (O _ f3) (W _ f3) (B _ f3) T3 hN (by omega) (fun j3 k3 => ?_) (fun z => ?_)
  rotate_left
  · simp -implicitDefEqProofs only [s_go, s_nil, s_cons, q_ins, s_op, s_i, s_j, s_a, s_v, s_li, s_lj, s_la, s_liO, s_ljO, s_laO, q_get, q_p1, q_p2, s_n2i, s_n2r, s_n2l, s_n2n, q_pad, q_ar, s_ob, s_obO, q_nth, s_ri, s_riO, s_rb, s_rbO, s_rzO, s_rl, s_rlO, s_rq, s_rqO, s_ry, s_ryO, s_dn, s_tl, s_tn, s_ap, s_an, s_ci, s_cr, s_ni, s_n0, s_n1, q_ags, q_cat, List.contains_nil, List.contains_cons, Nat.reduceBEq, Bool.or_false, Bool.false_or, Bool.true_or, Bool.false_eq_true, ↓reduceIte, Nat.le_refl, Nat.zero_le, true_and, and_true, Nat.reduceLeDiff, Nat.reduceAdd, Nat.add_zero, Nat.zero_add, List.length_cons, List.length_nil, List.set_cons_zero, List.set_cons_succ, Nat.reduceLT, s_fi, s_fl, s_fo, s_fa, s_f0, s_f1, s_set, s_ss, lg_cmp_ge, lg_cmp_le, lg_cmp_gt, lg_cmp_lt, lg_cmp_eq, s_brT, s_brF, s_10, w_Fo_hasTables, r_Fo_hasTables, l_Fo_hasTables_0, l_Fo_hasTables_95, l_Fo_hasTables_96, f_3_30, ki_3_125, ml_3_126, w_Fo_finds, f_3_33, ki_3_130, f_3_36, ki_3_131, f_3_39, ki_3_132, f_3_42, ki_3_133, f_3_45, ki_3_134, f_3_48, ki_3_135, kc_1, kc_0, O' _ f3]
    exact q0 (Or.inr (Or.inr (Or.inr (Or.inl z)))) _ f3 J3
  generalize hh4 : q_set h3 (o + 8) _ = h4
  have f4 : q_fT h h4 o := by rw [← hh4]; exact f3.set (by omega) (by omega) _
  have J4 : q_TJ h4 o := by rw [← hh4]; exact J3.set 8 _ _
  have S4_0 : q_Ta h4 (o + 5) (o + 1) (T_p F sz j0) (T_l F sz j0) := by unfold q_Ta; rw [← hh4, s_ne _ _ (by omega)]; exact S3_0
  have S4_1 : q_Ta h4 (o + 6) (o + 1) (T_p F sz j1) (T_l F sz j1) := by unfold q_Ta; rw [← hh4, s_ne _ _ (by omega)]; exact S3_1
  have S4_2 : q_Ta h4 (o + 7) (o + 1) (T_p F sz j2) (T_l F sz j2) := by unfold q_Ta; rw [← hh4, s_ne _ _ (by omega)]; exact S3_2
  have S4_3 : q_Ta h4 (o + 8) (o + 1) (T_p F sz j3) (T_l F sz j3) := by unfold q_Ta; rw [← hh4]; exact s_set _ _ _
  simp -implicitDefEqProofs only [s_go, s_nil, s_cons, q_ins, s_op, s_i, s_j, s_a, s_v, s_li, s_lj, s_la, s_liO, s_ljO, s_laO, q_get, q_p1, q_p2, s_n2i, s_n2r, s_n2l, s_n2n, q_pad, q_ar, s_ob, s_obO, q_nth, s_ri, s_riO, s_rb, s_rbO, s_rzO, s_rl, s_rlO, s_rq, s_rqO, s_ry, s_ryO, s_dn, s_tl, s_tn, s_ap, s_an, s_ci, s_cr, s_ni, s_n0, s_n1, q_ags, q_cat, List.contains_nil, List.contains_cons, Nat.reduceBEq, Bool.or_false, Bool.false_or, Bool.true_or, Bool.false_eq_true, ↓reduceIte, Nat.le_refl, Nat.zero_le, true_and, and_true, Nat.reduceLeDiff, Nat.reduceAdd, Nat.add_zero, Nat.zero_add, List.length_cons, List.length_nil, List.set_cons_zero, List.set_cons_succ, Nat.reduceLT, s_fi, s_fl, s_fo, s_fa, s_f0, s_f1, s_set, s_ss, lg_cmp_ge, lg_cmp_le, lg_cmp_gt, lg_cmp_lt, lg_cmp_eq, s_brT, s_brF, s_10, w_Fo_hasTables, r_Fo_hasTables, l_Fo_hasTables_0, l_Fo_hasTables_95, l_Fo_hasTables_96, f_3_30, ki_3_125, ml_3_126, w_Fo_finds, f_3_33, ki_3_130, f_3_36, ki_3_131, f_3_39, ki_3_132, f_3_42, ki_3_133, f_3_45, ki_3_134, f_3_48, ki_3_135, kc_1, kc_0, O' _ f4]
  obtain ⟨st4, ln4, T4⟩ := J4 9 (by omega) (by omega)
  refine q_c0 (Nat.le_refl _) (Nat.le_refl _) ?_
  refine c_Fo_finds (nm := 1752003704) (O _ f4) (W _ f4) (B _ f4) T4 hN (by omega) (fun j4 k4 => ?_) (fun z => ?_)
  rotate_left
  · simp -implicitDefEqProofs only [s_go, s_nil, s_cons, q_ins, s_op, s_i, s_j, s_a, s_v, s_li, s_lj, s_la, s_liO, s_ljO, s_laO, q_get, q_p1, q_p2, s_n2i, s_n2r, s_n2l, s_n2n, q_pad, q_ar, s_ob, s_obO, q_nth, s_ri, s_riO, s_rb, s_rbO, s_rzO, s_rl, s_rlO, s_rq, s_rqO, s_ry, s_ryO, s_dn, s_tl, s_tn, s_ap, s_an, s_ci, s_cr, s_ni, s_n0, s_n1, q_ags, q_cat, List.contains_nil, List.contains_cons, Nat.reduceBEq, Bool.or_false, Bool.false_or, Bool.true_or, Bool.false_eq_true, ↓reduceIte, Nat.le_refl, Nat.zero_le, true_and, and_true, Nat.reduceLeDiff, Nat.reduceAdd, Nat.add_zero, Nat.zero_add, List.length_cons, List.length_nil, List.set_cons_zero, List.set_cons_succ, Nat.reduceLT, s_fi, s_fl, s_fo, s_fa, s_f0, s_f1, s_set, s_ss, lg_cmp_ge, lg_cmp_le, lg_cmp_gt, lg_cmp_lt, lg_cmp_eq, s_brT, s_brF, s_10, w_Fo_hasTables, r_Fo_hasTables, l_Fo_hasTables_0, l_Fo_hasTables_95, l_Fo_hasTables_96, f_3_30, ki_3_125, ml_3_126, w_Fo_finds, f_3_33, ki_3_130, f_3_36, ki_3_131, f_3_39, ki_3_132, f_3_42, ki_3_133, f_3_45, ki_3_134, f_3_48, ki_3_135, kc_1, kc_0, O' _ f4]
    exact q0 (Or.inr (Or.inr (Or.inr (Or.inr (Or.inl z))))) _ f4 J4
  generalize hh5 : q_set h4 (o + 9) _ = h5
  have f5 : q_fT h h5 o := by rw [← hh5]; exact f4.set (by omega) (by omega) _
  have J5 : q_TJ h5 o := by rw [← hh5]; exact J4.set 9 _ _
  have S5_0 : q_Ta h5 (o + 5) (o + 1) (T_p F sz j0) (T_l F sz j0) := by unfold q_Ta; rw [← hh5, s_ne _ _ (by omega)]; exact S4_0
  have S5_1 : q_Ta h5 (o + 6) (o + 1) (T_p F sz j1) (T_l F sz j1) := by unfold q_Ta; rw [← hh5, s_ne _ _ (by omega)]; exact S4_1
  have S5_2 : q_Ta h5 (o + 7) (o + 1) (T_p F sz j2) (T_l F sz j2) := by unfold q_Ta; rw [← hh5, s_ne _ _ (by omega)]; exact S4_2
  have S5_3 : q_Ta h5 (o + 8) (o + 1) (T_p F sz j3) (T_l F sz j3) := by unfold q_Ta; rw [← hh5, s_ne _ _ (by omega)]; exact S4_3
  have S5_4 : q_Ta h5 (o + 9) (o + 1) (T_p F sz j4) (T_l F sz j4) := by unfold q_Ta; rw [← hh5]; exact s_set _ _ _
  simp -implicitDefEqProofs only [s_go, s_nil, s_cons, q_ins, s_op, s_i, s_j, s_a, s_v, s_li, s_lj, s_la, s_liO, s_ljO, s_laO, q_get, q_p1, q_p2, s_n2i, s_n2r, s_n2l, s_n2n, q_pad, q_ar, s_ob, s_obO, q_nth, s_ri, s_riO, s_rb, s_rbO, s_rzO, s_rl, s_rlO, s_rq, s_rqO, s_ry, s_ryO, s_dn, s_tl, s_tn, s_ap, s_an, s_ci, s_cr, s_ni, s_n0, s_n1, q_ags, q_cat, List.contains_nil, List.contains_cons, Nat.reduceBEq, Bool.or_false, Bool.false_or, Bool.true_or, Bool.false_eq_true, ↓reduceIte, Nat.le_refl, Nat.zero_le, true_and, and_true, Nat.reduceLeDiff, Nat.reduceAdd, Nat.add_zero, Nat.zero_add, List.length_cons, List.length_nil, List.set_cons_zero, List.set_cons_succ, Nat.reduceLT, s_fi, s_fl, s_fo, s_fa, s_f0, s_f1, s_set, s_ss, lg_cmp_ge, lg_cmp_le, lg_cmp_gt, lg_cmp_lt, lg_cmp_eq, s_brT, s_brF, s_10, w_Fo_hasTables, r_Fo_hasTables, l_Fo_hasTables_0, l_Fo_hasTables_95, l_Fo_hasTables_96, f_3_30, ki_3_125, ml_3_126, w_Fo_finds, f_3_33, ki_3_130, f_3_36, ki_3_131, f_3_39, ki_3_132, f_3_42, ki_3_133, f_3_45, ki_3_134, f_3_48, ki_3_135, kc_1, kc_0, O' _ f5]
  obtain ⟨st5, ln5, T5⟩ := J5 10 (by omega) (by omega)
  refine q_c0 (Nat.le_refl _) (Nat.le_refl _) ?_
  refine c_Fo_finds (nm := 1819239265) (O _ f5) (W _ f5) (B _ f5) T5 hN (by omega) (fun j5 k5 => ?_) (fun z => ?_)
  rotate_left
  · simp -implicitDefEqProofs only [s_go, s_nil, s_cons, q_ins, s_op, s_i, s_j, s_a, s_v, s_li, s_lj, s_la, s_liO, s_ljO, s_laO, q_get, q_p1, q_p2, s_n2i, s_n2r, s_n2l, s_n2n, q_pad, q_ar, s_ob, s_obO, q_nth, s_ri, s_riO, s_rb, s_rbO, s_rzO, s_rl, s_rlO, s_rq, s_rqO, s_ry, s_ryO, s_dn, s_tl, s_tn, s_ap, s_an, s_ci, s_cr, s_ni, s_n0, s_n1, q_ags, q_cat, List.contains_nil, List.contains_cons, Nat.reduceBEq, Bool.or_false, Bool.false_or, Bool.true_or, Bool.false_eq_true, ↓reduceIte, Nat.le_refl, Nat.zero_le, true_and, and_true, Nat.reduceLeDiff, Nat.reduceAdd, Nat.add_zero, Nat.zero_add, List.length_cons, List.length_nil, List.set_cons_zero, List.set_cons_succ, Nat.reduceLT, s_fi, s_fl, s_fo, s_fa, s_f0, s_f1, s_set, s_ss, lg_cmp_ge, lg_cmp_le, lg_cmp_gt, lg_cmp_lt, lg_cmp_eq, s_brT, s_brF, s_10, w_Fo_hasTables, r_Fo_hasTables, l_Fo_hasTables_0, l_Fo_hasTables_95, l_Fo_hasTables_96, f_3_30, ki_3_125, ml_3_126, w_Fo_finds, f_3_33, ki_3_130, f_3_36, ki_3_131, f_3_39, ki_3_132, f_3_42, ki_3_133, f_3_45, ki_3_134, f_3_48, ki_3_135, kc_1, kc_0, O' _ f5]
    exact q0 (Or.inr (Or.inr (Or.inr (Or.inr (Or.inr (Or.inl z)))))) _ f5 J5
  generalize hh6 : q_set h5 (o + 10) _ = h6
  have f6 : q_fT h h6 o := by rw [← hh6]; exact f5.set (by omega) (by omega) _
  have J6 : q_TJ h6 o := by rw [← hh6]; exact J5.set 10 _ _
  have S6_0 : q_Ta h6 (o + 5) (o + 1) (T_p F sz j0) (T_l F sz j0) := by unfold q_Ta; rw [← hh6, s_ne _ _ (by omega)]; exact S5_0
  have S6_1 : q_Ta h6 (o + 6) (o + 1) (T_p F sz j1) (T_l F sz j1) := by unfold q_Ta; rw [← hh6, s_ne _ _ (by omega)]; exact S5_1
  have S6_2 : q_Ta h6 (o + 7) (o + 1) (T_p F sz j2) (T_l F sz j2) := by unfold q_Ta; rw [← hh6, s_ne _ _ (by omega)]; exact S5_2
  have S6_3 : q_Ta h6 (o + 8) (o + 1) (T_p F sz j3) (T_l F sz j3) := by unfold q_Ta; rw [← hh6, s_ne _ _ (by omega)]; exact S5_3
  have S6_4 : q_Ta h6 (o + 9) (o + 1) (T_p F sz j4) (T_l F sz j4) := by unfold q_Ta; rw [← hh6, s_ne _ _ (by omega)]; exact S5_4
  have S6_5 : q_Ta h6 (o + 10) (o + 1) (T_p F sz j5) (T_l F sz j5) := by unfold q_Ta; rw [← hh6]; exact s_set _ _ _
  simp -implicitDefEqProofs only [s_go, s_nil, s_cons, q_ins, s_op, s_i, s_j, s_a, s_v, s_li, s_lj, s_la, s_liO, s_ljO, s_laO, q_get, q_p1, q_p2, s_n2i, s_n2r, s_n2l, s_n2n, q_pad, q_ar, s_ob, s_obO, q_nth, s_ri, s_riO, s_rb, s_rbO, s_rzO, s_rl, s_rlO, s_rq, s_rqO, s_ry, s_ryO, s_dn, s_tl, s_tn, s_ap, s_an, s_ci, s_cr, s_ni, s_n0, s_n1, q_ags, q_cat, List.contains_nil, List.contains_cons, Nat.reduceBEq, Bool.or_false, Bool.false_or, Bool.true_or, Bool.false_eq_true, ↓reduceIte, Nat.le_refl, Nat.zero_le, true_and, and_true, Nat.reduceLeDiff, Nat.reduceAdd, Nat.add_zero, Nat.zero_add, List.length_cons, List.length_nil, List.set_cons_zero, List.set_cons_succ, Nat.reduceLT, s_fi, s_fl, s_fo, s_fa, s_f0, s_f1, s_set, s_ss, lg_cmp_ge, lg_cmp_le, lg_cmp_gt, lg_cmp_lt, lg_cmp_eq, s_brT, s_brF, s_10, w_Fo_hasTables, r_Fo_hasTables, l_Fo_hasTables_0, l_Fo_hasTables_95, l_Fo_hasTables_96, f_3_30, ki_3_125, ml_3_126, w_Fo_finds, f_3_33, ki_3_130, f_3_36, ki_3_131, f_3_39, ki_3_132, f_3_42, ki_3_133, f_3_45, ki_3_134, f_3_48, ki_3_135, kc_1, kc_0, O' _ f6]
  obtain ⟨st6, ln6, T6⟩ := J6 11 (by omega) (by omega)
  refine q_c0 (Nat.le_refl _) (Nat.le_refl _) ?_
  refine c_Fo_finds (nm := 1835104368) (O _ f6) (W _ f6) (B _ f6) T6 hN (by omega) (fun j6 k6 => ?_) (fun z => ?_)
  rotate_left
  · simp -implicitDefEqProofs only [s_go, s_nil, s_cons, q_ins, s_op, s_i, s_j, s_a, s_v, s_li, s_lj, s_la, s_liO, s_ljO, s_laO, q_get, q_p1, q_p2, s_n2i, s_n2r, s_n2l, s_n2n, q_pad, q_ar, s_ob, s_obO, q_nth, s_ri, s_riO, s_rb, s_rbO, s_rzO, s_rl, s_rlO, s_rq, s_rqO, s_ry, s_ryO, s_dn, s_tl, s_tn, s_ap, s_an, s_ci, s_cr, s_ni, s_n0, s_n1, q_ags, q_cat, List.contains_nil, List.contains_cons, Nat.reduceBEq, Bool.or_false, Bool.false_or, Bool.true_or, Bool.false_eq_true, ↓reduceIte, Nat.le_refl, Nat.zero_le, true_and, and_true, Nat.reduceLeDiff, Nat.reduceAdd, Nat.add_zero, Nat.zero_add, List.length_cons, List.length_nil, List.set_cons_zero, List.set_cons_succ, Nat.reduceLT, s_fi, s_fl, s_fo, s_fa, s_f0, s_f1, s_set, s_ss, lg_cmp_ge, lg_cmp_le, lg_cmp_gt, lg_cmp_lt, lg_cmp_eq, s_brT, s_brF, s_10, w_Fo_hasTables, r_Fo_hasTables, l_Fo_hasTables_0, l_Fo_hasTables_95, l_Fo_hasTables_96, f_3_30, ki_3_125, ml_3_126, w_Fo_finds, f_3_33, ki_3_130, f_3_36, ki_3_131, f_3_39, ki_3_132, f_3_42, ki_3_133, f_3_45, ki_3_134, f_3_48, ki_3_135, kc_1, kc_0, O' _ f6]
    exact q0 (Or.inr (Or.inr (Or.inr (Or.inr (Or.inr (Or.inr (z))))))) _ f6 J6
  generalize hh7 : q_set h6 (o + 11) _ = h7
  have f7 : q_fT h h7 o := by rw [← hh7]; exact f6.set (by omega) (by omega) _
  have J7 : q_TJ h7 o := by rw [← hh7]; exact J6.set 11 _ _
  have S7_0 : q_Ta h7 (o + 5) (o + 1) (T_p F sz j0) (T_l F sz j0) := by unfold q_Ta; rw [← hh7, s_ne _ _ (by omega)]; exact S6_0
  have S7_1 : q_Ta h7 (o + 6) (o + 1) (T_p F sz j1) (T_l F sz j1) := by unfold q_Ta; rw [← hh7, s_ne _ _ (by omega)]; exact S6_1
  have S7_2 : q_Ta h7 (o + 7) (o + 1) (T_p F sz j2) (T_l F sz j2) := by unfold q_Ta; rw [← hh7, s_ne _ _ (by omega)]; exact S6_2
  have S7_3 : q_Ta h7 (o + 8) (o + 1) (T_p F sz j3) (T_l F sz j3) := by unfold q_Ta; rw [← hh7, s_ne _ _ (by omega)]; exact S6_3
  have S7_4 : q_Ta h7 (o + 9) (o + 1) (T_p F sz j4) (T_l F sz j4) := by unfold q_Ta; rw [← hh7, s_ne _ _ (by omega)]; exact S6_4
  have S7_5 : q_Ta h7 (o + 10) (o + 1) (T_p F sz j5) (T_l F sz j5) := by unfold q_Ta; rw [← hh7, s_ne _ _ (by omega)]; exact S6_5
  have S7_6 : q_Ta h7 (o + 11) (o + 1) (T_p F sz j6) (T_l F sz j6) := by unfold q_Ta; rw [← hh7]; exact s_set _ _ _
  simp -implicitDefEqProofs only [s_go, s_nil, s_cons, q_ins, s_op, s_i, s_j, s_a, s_v, s_li, s_lj, s_la, s_liO, s_ljO, s_laO, q_get, q_p1, q_p2, s_n2i, s_n2r, s_n2l, s_n2n, q_pad, q_ar, s_ob, s_obO, q_nth, s_ri, s_riO, s_rb, s_rbO, s_rzO, s_rl, s_rlO, s_rq, s_rqO, s_ry, s_ryO, s_dn, s_tl, s_tn, s_ap, s_an, s_ci, s_cr, s_ni, s_n0, s_n1, q_ags, q_cat, List.contains_nil, List.contains_cons, Nat.reduceBEq, Bool.or_false, Bool.false_or, Bool.true_or, Bool.false_eq_true, ↓reduceIte, Nat.le_refl, Nat.zero_le, true_and, and_true, Nat.reduceLeDiff, Nat.reduceAdd, Nat.add_zero, Nat.zero_add, List.length_cons, List.length_nil, List.set_cons_zero, List.set_cons_succ, Nat.reduceLT, s_fi, s_fl, s_fo, s_fa, s_f0, s_f1, s_set, s_ss, lg_cmp_ge, lg_cmp_le, lg_cmp_gt, lg_cmp_lt, lg_cmp_eq, s_brT, s_brF, s_10, w_Fo_hasTables, r_Fo_hasTables, l_Fo_hasTables_0, l_Fo_hasTables_95, l_Fo_hasTables_96, f_3_30, ki_3_125, ml_3_126, w_Fo_finds, f_3_33, ki_3_130, f_3_36, ki_3_131, f_3_39, ki_3_132, f_3_42, ki_3_133, f_3_45, ki_3_134, f_3_48, ki_3_135, kc_1, kc_0, O' _ f7]
  exact q1 j0 j1 j2 j3 j4 j5 j6 k0 k1 k2 k3 k4 k5 k6 _ f7 S7_0 S7_1 S7_2 S7_3 S7_4 S7_5 S7_6
end
section
/-! Font: counts, places -/
/-- head (hs, hl), maxp (xs, xl), hhea (is, il), hmtx of ml bytes -/
def CNT_ok (F : Nat → Nat) (hs hl xs xl is il ml : Nat) : Prop :=
  (54 ≤ hl ∧ 6 ≤ xl ∧ 36 ≤ il) ∧ 16 ≤ U16 F hs hl 18 ∧ U16 F hs hl 18 ≤ 16384 ∧ U16 F hs hl 50 ≤ 1 ∧ 1 ≤ U16 F xs xl 4 ∧ U16 F xs xl 4 ≤ 256 ∧ 1 ≤ U16 F is il 34 ∧ U16 F is il 34 ≤ U16 F xs xl 4 ∧ 4 * U16 F is il 34 + 2 * (U16 F xs xl 4 - U16 F is il 34) ≤ ml
theorem s_fz {p : Prop} [Decidable p] : q_fit .boolean (.int (q_z p)) := by
  unfold q_z; split <;> exact ⟨rfl, rfl⟩
-- from the place 70 on
set_option maxRecDepth 100000 in
set_option maxHeartbeats 4000000 in
theorem z_Fo_hasCounts {G : q_G} {l : Launch} {d o row m n sz hs hl xs xl is il ms' ml : Nat} {gl wd lp zp : Int32} {g : Nat → Int32} {F : Nat → Nat} {h : q_H} {Q : q_P} (hO : h o = some (e_Fo o (nI (U16 F hs hl 18)) gl wd lp)) (hB : q_By h (o + 1) row m g sz F) (hH : q_Ta h (o + 7) (o + 1) hs hl) (hI : q_Ta h (o + 8) (o + 1) is il) (hM : q_Ta h (o + 9) (o + 1) ms' ml) (hX : q_Ta h (o + 11) (o + 1) xs xl)
    (b1 : hs + hl ≤ sz) (b2 : is + il ≤ sz) (b3 : ms' + ml ≤ sz) (b4 : xs + xl ≤ sz) (hz : q_fit .boolean (.int zp)) (c0 : 54 ≤ hl ∧ 6 ≤ xl ∧ 36 ≤ il)
    (q1 : CNT_ok F hs hl xs xl is il ml → Q (some (.int 1)) (q_set h o (e_Fo o (nI (U16 F hs hl 18)) (nI (U16 F xs xl 4)) (nI (U16 F is il 34)) zp)) n)
    (q0 : ¬ CNT_ok F hs hl xs xl is il ml → Q (some (.int 0)) (q_set h o (e_Fo o (nI (U16 F hs hl 18)) (nI (U16 F xs xl 4)) (nI (U16 F is il 34)) zp)) n) : q_Z G l M_Fo_hasCounts (d + 2) 0 0 Q 70 [some (.ref o)] [.int zp, .ref o] h n 0 0 := by
  have hF := hB.2.2.2.2.2.2
  have hs' : sz ≤ 16384 := Nat.le_trans hB.2.2.1 hB.2.2.2.1
  have hO' := hO
  unfold e_Fo at hO'
  have u18 := U16_lt hF hs hl 18
  have u50 := U16_lt hF hs hl 50
  have u4 := U16_lt hF xs xl 4
  have u34 := U16_lt hF is il 34
  have hro := hB.ne hO'
  have mvT : ∀ {h' : q_H} {i st ln : Nat}, q_1 h h' o → 0 < i → q_Ta h (o + i) (o + 1) st ln → q_Ta h' (o + i) (o + 1) st ln := fun f hi t => (f _ (by omega)).trans t
  have mvB : ∀ {h' : q_H}, q_1 h h' o → q_By h' (o + 1) row m g sz F := fun f => hB.mv (f _ (by omega)) (f _ hro)
  have hH' : h (o + 7) = some (.inr (6, [.ref (o + 1), .int (nI hs), .int (nI hl)])) := hH
  have hX' : h (o + 11) = some (.inr (6, [.ref (o + 1), .int (nI xs), .int (nI xl)])) := hX
  have hI' : h (o + 8) = some (.inr (6, [.ref (o + 1), .int (nI is), .int (nI il)])) := hI
  have hM' : h (o + 9) = some (.inr (6, [.ref (o + 1), .int (nI ms'), .int (nI ml)])) := hM
  have o7 : o + 7 ≠ o := by omega
  have o8 : o + 8 ≠ o := by omega
  have o9 : o + 9 ≠ o := by omega
  have o11 : o + 11 ≠ o := by omega
  refine q_at o_Fo_hasCounts [] 40 l_Fo_hasCounts_70 ?_
  simp -implicitDefEqProofs only [s_go, s_nil, s_cons, q_ins, s_op, s_i, s_j, s_a, s_v, s_li, s_lj, s_la, s_liO, s_ljO, s_laO, q_get, q_p1, q_p2, s_n2i, s_n2r, s_n2l, s_n2n, q_pad, q_ar, s_ob, s_obO, q_nth, s_ri, s_riO, s_rb, s_rbO, s_rzO, s_rl, s_rlO, s_rq, s_rqO, s_ry, s_ryO, s_dn, s_tl, s_tn, s_ap, s_an, s_ci, s_cr, s_ni, s_n0, s_n1, q_ags, q_cat, List.contains_nil, List.contains_cons, Nat.reduceBEq, Bool.or_false, Bool.false_or, Bool.true_or, Bool.false_eq_true, ↓reduceIte, Nat.le_refl, Nat.zero_le, true_and, and_true, Nat.reduceLeDiff, Nat.reduceAdd, Nat.add_zero, Nat.zero_add, List.length_cons, List.length_nil, List.set_cons_zero, List.set_cons_succ, Nat.reduceLT, s_fi, s_fl, s_fo, s_fa, s_f0, s_f1, s_set, s_ss, lg_cmp_ge, lg_cmp_le, lg_cmp_gt, lg_cmp_lt, lg_cmp_eq, s_brT, s_brF, s_10, w_Fo_hasCounts, r_Fo_hasCounts, l_Fo_hasCounts_0, l_Fo_hasCounts_36, l_Fo_hasCounts_38, l_Fo_hasCounts_69, l_Fo_hasCounts_70, l_Fo_hasCounts_199, l_Fo_hasCounts_200, f_3_36, f_3_120, kb_54, f_3_48, kb_6, f_3_39, kb_36, kc_0, kb_18, ml_3_90, w_Ta_u16, f_3_136, ty_3_11, kb_50, kc_1, f_3_139, ty_3_14, kc_4, f_3_143, ty_3_12, kb_34, f_3_146, ty_3_13, kb_16, ks_16384, ks_256, f_3_42, kc_2, hO', s_ne _ _ o7, s_ne _ _ o8, s_ne _ _ o9, s_ne _ _ o11, hX', hI', hM', hH', eq_true hz]
  refine q_c0 (Nat.le_refl _) (Nat.le_refl _) ?_
  refine c_Ta_u16 (j := 4) (mvT (fun b hb => s_ne _ _ hb) (by omega) hX) (mvB (fun b hb => s_ne _ _ hb)) b4 (by omega) ?_
  simp -implicitDefEqProofs only [s_go, s_nil, s_cons, q_ins, s_op, s_i, s_j, s_a, s_v, s_li, s_lj, s_la, s_liO, s_ljO, s_laO, q_get, q_p1, q_p2, s_n2i, s_n2r, s_n2l, s_n2n, q_pad, q_ar, s_ob, s_obO, q_nth, s_ri, s_riO, s_rb, s_rbO, s_rzO, s_rl, s_rlO, s_rq, s_rqO, s_ry, s_ryO, s_dn, s_tl, s_tn, s_ap, s_an, s_ci, s_cr, s_ni, s_n0, s_n1, q_ags, q_cat, List.contains_nil, List.contains_cons, Nat.reduceBEq, Bool.or_false, Bool.false_or, Bool.true_or, Bool.false_eq_true, ↓reduceIte, Nat.le_refl, Nat.zero_le, true_and, and_true, Nat.reduceLeDiff, Nat.reduceAdd, Nat.add_zero, Nat.zero_add, List.length_cons, List.length_nil, List.set_cons_zero, List.set_cons_succ, Nat.reduceLT, s_fi, s_fl, s_fo, s_fa, s_f0, s_f1, s_set, s_ss, lg_cmp_ge, lg_cmp_le, lg_cmp_gt, lg_cmp_lt, lg_cmp_eq, s_brT, s_brF, s_10, w_Fo_hasCounts, r_Fo_hasCounts, l_Fo_hasCounts_0, l_Fo_hasCounts_36, l_Fo_hasCounts_38, l_Fo_hasCounts_69, l_Fo_hasCounts_70, l_Fo_hasCounts_199, l_Fo_hasCounts_200, f_3_36, f_3_120, kb_54, f_3_48, kb_6, f_3_39, kb_36, kc_0, kb_18, ml_3_90, w_Ta_u16, f_3_136, ty_3_11, kb_50, kc_1, f_3_139, ty_3_14, kc_4, f_3_143, ty_3_12, kb_34, f_3_146, ty_3_13, kb_16, ks_16384, ks_256, f_3_42, kc_2, hO', s_ne _ _ o7, s_ne _ _ o8, s_ne _ _ o9, s_ne _ _ o11, hX', hI', hM', hH']
  refine q_c0 (Nat.le_refl _) (Nat.le_refl _) ?_
  refine c_Ta_u16 (j := 34) (mvT (fun b hb => s_ne _ _ hb) (by omega) hI) (mvB (fun b hb => s_ne _ _ hb)) b2 (by omega) ?_
  simp -implicitDefEqProofs only [s_go, s_nil, s_cons, q_ins, s_op, s_i, s_j, s_a, s_v, s_li, s_lj, s_la, s_liO, s_ljO, s_laO, q_get, q_p1, q_p2, s_n2i, s_n2r, s_n2l, s_n2n, q_pad, q_ar, s_ob, s_obO, q_nth, s_ri, s_riO, s_rb, s_rbO, s_rzO, s_rl, s_rlO, s_rq, s_rqO, s_ry, s_ryO, s_dn, s_tl, s_tn, s_ap, s_an, s_ci, s_cr, s_ni, s_n0, s_n1, q_ags, q_cat, List.contains_nil, List.contains_cons, Nat.reduceBEq, Bool.or_false, Bool.false_or, Bool.true_or, Bool.false_eq_true, ↓reduceIte, Nat.le_refl, Nat.zero_le, true_and, and_true, Nat.reduceLeDiff, Nat.reduceAdd, Nat.add_zero, Nat.zero_add, List.length_cons, List.length_nil, List.set_cons_zero, List.set_cons_succ, Nat.reduceLT, s_fi, s_fl, s_fo, s_fa, s_f0, s_f1, s_set, s_ss, lg_cmp_ge, lg_cmp_le, lg_cmp_gt, lg_cmp_lt, lg_cmp_eq, s_brT, s_brF, s_10, w_Fo_hasCounts, r_Fo_hasCounts, l_Fo_hasCounts_0, l_Fo_hasCounts_36, l_Fo_hasCounts_38, l_Fo_hasCounts_69, l_Fo_hasCounts_70, l_Fo_hasCounts_199, l_Fo_hasCounts_200, f_3_36, f_3_120, kb_54, f_3_48, kb_6, f_3_39, kb_36, kc_0, kb_18, ml_3_90, w_Ta_u16, f_3_136, ty_3_11, kb_50, kc_1, f_3_139, ty_3_14, kc_4, f_3_143, ty_3_12, kb_34, f_3_146, ty_3_13, kb_16, ks_16384, ks_256, f_3_42, kc_2, hO', s_ne _ _ o7, s_ne _ _ o8, s_ne _ _ o9, s_ne _ _ o11, hX', hI', hM', hH']
  have e1 : q_set h o (Sum.inr (3, [.ref (o + 1), .ref (o + 3), .ref (o + 4), .ref (o + 5), .ref (o + 6), .ref (o + 7), .ref (o + 8), .ref (o + 9), .ref (o + 10), .ref (o + 11), .ref (o + 12), .int (nI (U16 F hs hl 18)), .int (nI (U16 F xs xl 4)), .int (nI (U16 F is il 34)), .int zp])) = q_set h o (e_Fo o (nI (U16 F hs hl 18)) (nI (U16 F xs xl 4)) (nI (U16 F is il 34)) zp) := rfl
  rw [show (16 : Int32) = nI 16 from rfl, show (16384 : Int32) = nI 16384 from rfl, nI_ltI (by omega) (by omega), nI_ltI (by omega) (by omega)]
  refine ⟨fun c => q0 (fun z => absurd z.2.1 (by omega)), fun c => ⟨fun c1 => q0 (fun z => absurd z.2.2.1 (by omega)), fun c1 => ?_⟩⟩
  refine q_c0 (Nat.le_refl _) (Nat.le_refl _) ?_
  refine c_Ta_u16 (j := 50) (mvT (fun b hb => s_ne _ _ hb) (by omega) hH) (mvB (fun b hb => s_ne _ _ hb)) b1 (by omega) ?_
  simp -implicitDefEqProofs only [s_go, s_nil, s_cons, q_ins, s_op, s_i, s_j, s_a, s_v, s_li, s_lj, s_la, s_liO, s_ljO, s_laO, q_get, q_p1, q_p2, s_n2i, s_n2r, s_n2l, s_n2n, q_pad, q_ar, s_ob, s_obO, q_nth, s_ri, s_riO, s_rb, s_rbO, s_rzO, s_rl, s_rlO, s_rq, s_rqO, s_ry, s_ryO, s_dn, s_tl, s_tn, s_ap, s_an, s_ci, s_cr, s_ni, s_n0, s_n1, q_ags, q_cat, List.contains_nil, List.contains_cons, Nat.reduceBEq, Bool.or_false, Bool.false_or, Bool.true_or, Bool.false_eq_true, ↓reduceIte, Nat.le_refl, Nat.zero_le, true_and, and_true, Nat.reduceLeDiff, Nat.reduceAdd, Nat.add_zero, Nat.zero_add, List.length_cons, List.length_nil, List.set_cons_zero, List.set_cons_succ, Nat.reduceLT, s_fi, s_fl, s_fo, s_fa, s_f0, s_f1, s_set, s_ss, lg_cmp_ge, lg_cmp_le, lg_cmp_gt, lg_cmp_lt, lg_cmp_eq, s_brT, s_brF, s_10, w_Fo_hasCounts, r_Fo_hasCounts, l_Fo_hasCounts_0, l_Fo_hasCounts_36, l_Fo_hasCounts_38, l_Fo_hasCounts_69, l_Fo_hasCounts_70, l_Fo_hasCounts_199, l_Fo_hasCounts_200, f_3_36, f_3_120, kb_54, f_3_48, kb_6, f_3_39, kb_36, kc_0, kb_18, ml_3_90, w_Ta_u16, f_3_136, ty_3_11, kb_50, kc_1, f_3_139, ty_3_14, kc_4, f_3_143, ty_3_12, kb_34, f_3_146, ty_3_13, kb_16, ks_16384, ks_256, f_3_42, kc_2, hO', s_ne _ _ o7, s_ne _ _ o8, s_ne _ _ o9, s_ne _ _ o11, hX', hI', hM', hH']
  rw [show (1 : Int32) = nI 1 from rfl, show (256 : Int32) = nI 256 from rfl, nI_ltI (by omega) (by omega), nI_ltI (by omega) (by omega), nI_ltI (by omega) (by omega), nI_ltI (by omega) (by omega), nI_ltI (by omega) (by omega)]
  refine ⟨fun c2 => q0 (fun z => absurd z.2.2.2.1 (by omega)), fun c2 => ⟨fun c3 => q0 (fun z => absurd z.2.2.2.2.1 (by omega)), fun c3 => ⟨fun c4 => q0 (fun z => absurd z.2.2.2.2.2.1 (by omega)), fun c4 => ⟨fun c5 => q0 (fun z => absurd z.2.2.2.2.2.2.1 (by omega)), fun c5 => ⟨fun c6 => q0 (fun z => absurd z.2.2.2.2.2.2.2.1 (by omega)), fun c6 => ?_⟩⟩⟩⟩⟩
  rw [pk_sub (by omega), show (4 : Int32) = nI 4 from rfl, show (2 : Int32) = nI 2 from rfl, pk_mul, pk_mul, nI_add, nI_ltI (by omega) (by omega)]
  exact ⟨fun c7 => q0 (fun z => absurd z.2.2.2.2.2.2.2.2 (by omega)), fun c7 => q1 ⟨c0, by omega, by omega, by omega, by omega, by omega, by omega, by omega, by omega⟩⟩
set_option maxRecDepth 100000 in
set_option maxHeartbeats 4000000 in
theorem c_Fo_hasCounts {G : q_G} {l : Launch} {d o row m n sz hs hl xs xl is il ms' ml : Nat} {em gl wd lp : Int32} {g : Nat → Int32} {F : Nat → Nat} {h : q_H} {Q : q_P} (hO : h o = some (e_Fo o em gl wd lp)) (hB : q_By h (o + 1) row m g sz F) (hH : q_Ta h (o + 7) (o + 1) hs hl) (hI : q_Ta h (o + 8) (o + 1) is il) (hM : q_Ta h (o + 9) (o + 1) ms' ml) (hX : q_Ta h (o + 11) (o + 1) xs xl)
    (b1 : hs + hl ≤ sz) (b2 : is + il ≤ sz) (b3 : ms' + ml ≤ sz) (b4 : xs + xl ≤ sz) (hlp : lp = 0 ∨ lp = 1)
    (q1 : CNT_ok F hs hl xs xl is il ml → Q (some (.int 1)) (q_set h o (e_Fo o (nI (U16 F hs hl 18)) (nI (U16 F xs xl 4)) (nI (U16 F is il 34)) (q_z (U16 F hs hl 50 = 1)))) n)
    (q0 : ¬ CNT_ok F hs hl xs xl is il ml → ∀ em gl wd lp, (lp = 0 ∨ lp = 1) → Q (some (.int 0)) (q_set h o (e_Fo o em gl wd lp)) n) : q_Call G l M_Fo_hasCounts (d + 2) 0 0 [.ref o] h n Q := by
  have hF := hB.2.2.2.2.2.2
  have hs' : sz ≤ 16384 := Nat.le_trans hB.2.2.1 hB.2.2.2.1
  have hO' := hO
  unfold e_Fo at hO'
  have hH' : h (o + 7) = some (.inr (6, [.ref (o + 1), .int (nI hs), .int (nI hl)])) := hH
  have hI' : h (o + 8) = some (.inr (6, [.ref (o + 1), .int (nI is), .int (nI il)])) := hI
  have hM' : h (o + 9) = some (.inr (6, [.ref (o + 1), .int (nI ms'), .int (nI ml)])) := hM
  have hX' : h (o + 11) = some (.inr (6, [.ref (o + 1), .int (nI xs), .int (nI xl)])) := hX
  have u18 := U16_lt hF hs hl 18
  have u50 := U16_lt hF hs hl 50
  have u4 := U16_lt hF xs xl 4
  have u34 := U16_lt hF is il 34
  have q0' : ¬ CNT_ok F hs hl xs xl is il ml → Q (some (.int 0)) h n := fun z => by
    have := q0 z em gl wd lp hlp
    rw [s_id h hO] at this
    exact this
  refine q_in u_Fo_hasCounts (by rw [L_Fo_hasCounts]; exact Nat.le_of_ble_eq_true rfl) ?_
  rw [L_Fo_hasCounts]
  refine q_at o_Fo_hasCounts [70] 40 l_Fo_hasCounts_0 ?_
  simp -implicitDefEqProofs only [s_go, s_nil, s_cons, q_ins, s_op, s_i, s_j, s_a, s_v, s_li, s_lj, s_la, s_liO, s_ljO, s_laO, q_get, q_p1, q_p2, s_n2i, s_n2r, s_n2l, s_n2n, q_pad, q_ar, s_ob, s_obO, q_nth, s_ri, s_riO, s_rb, s_rbO, s_rzO, s_rl, s_rlO, s_rq, s_rqO, s_ry, s_ryO, s_dn, s_tl, s_tn, s_ap, s_an, s_ci, s_cr, s_ni, s_n0, s_n1, q_ags, q_cat, List.contains_nil, List.contains_cons, Nat.reduceBEq, Bool.or_false, Bool.false_or, Bool.true_or, Bool.false_eq_true, ↓reduceIte, Nat.le_refl, Nat.zero_le, true_and, and_true, Nat.reduceLeDiff, Nat.reduceAdd, Nat.add_zero, Nat.zero_add, List.length_cons, List.length_nil, List.set_cons_zero, List.set_cons_succ, Nat.reduceLT, s_fi, s_fl, s_fo, s_fa, s_f0, s_f1, s_set, s_ss, lg_cmp_ge, lg_cmp_le, lg_cmp_gt, lg_cmp_lt, lg_cmp_eq, s_brT, s_brF, s_10, w_Fo_hasCounts, r_Fo_hasCounts, l_Fo_hasCounts_0, l_Fo_hasCounts_36, l_Fo_hasCounts_38, l_Fo_hasCounts_69, l_Fo_hasCounts_70, l_Fo_hasCounts_199, l_Fo_hasCounts_200, f_3_36, f_3_120, kb_54, f_3_48, kb_6, f_3_39, kb_36, kc_0, kb_18, ml_3_90, w_Ta_u16, f_3_136, ty_3_11, kb_50, kc_1, f_3_139, ty_3_14, kc_4, f_3_143, ty_3_12, kb_34, f_3_146, ty_3_13, kb_16, ks_16384, ks_256, f_3_42, kc_2, hO', hH', hI', hM', hX']
  rw [show (54 : Int32) = nI 54 from rfl, show (6 : Int32) = nI 6 from rfl, show (36 : Int32) = nI 36 from rfl, nI_ltI (by omega) (by omega), nI_ltI (by omega) (by omega), nI_leI (by omega) (by omega)]
  refine ⟨fun c => q0' (fun z => absurd z.1.1 (by omega)), fun c => ⟨fun c1 => q0' (fun z => absurd z.1.2.1 (by omega)), fun c1 => ⟨fun c2 => ?_, fun c2 => q0' (fun z => absurd z.1.2.2 (by omega))⟩⟩⟩
  refine q_c0 (Nat.le_refl _) (Nat.le_refl _) ?_
  refine c_Ta_u16 (j := 18) hH hB b1 (by omega) ?_
  have hro := hB.ne hO'
  have mvT : ∀ {h' : q_H} {i st ln : Nat}, q_1 h h' o → 0 < i → q_Ta h (o + i) (o + 1) st ln → q_Ta h' (o + i) (o + 1) st ln := fun f hi t => (f _ (by omega)).trans t
  have mvB : ∀ {h' : q_H}, q_1 h h' o → q_By h' (o + 1) row m g sz F := fun f => hB.mv (f _ (by omega)) (f _ hro)
  have o7 : o + 7 ≠ o := by omega
  simp -implicitDefEqProofs only [s_go, s_nil, s_cons, q_ins, s_op, s_i, s_j, s_a, s_v, s_li, s_lj, s_la, s_liO, s_ljO, s_laO, q_get, q_p1, q_p2, s_n2i, s_n2r, s_n2l, s_n2n, q_pad, q_ar, s_ob, s_obO, q_nth, s_ri, s_riO, s_rb, s_rbO, s_rzO, s_rl, s_rlO, s_rq, s_rqO, s_ry, s_ryO, s_dn, s_tl, s_tn, s_ap, s_an, s_ci, s_cr, s_ni, s_n0, s_n1, q_ags, q_cat, List.contains_nil, List.contains_cons, Nat.reduceBEq, Bool.or_false, Bool.false_or, Bool.true_or, Bool.false_eq_true, ↓reduceIte, Nat.le_refl, Nat.zero_le, true_and, and_true, Nat.reduceLeDiff, Nat.reduceAdd, Nat.add_zero, Nat.zero_add, List.length_cons, List.length_nil, List.set_cons_zero, List.set_cons_succ, Nat.reduceLT, s_fi, s_fl, s_fo, s_fa, s_f0, s_f1, s_set, s_ss, lg_cmp_ge, lg_cmp_le, lg_cmp_gt, lg_cmp_lt, lg_cmp_eq, s_brT, s_brF, s_10, w_Fo_hasCounts, r_Fo_hasCounts, l_Fo_hasCounts_0, l_Fo_hasCounts_36, l_Fo_hasCounts_38, l_Fo_hasCounts_69, l_Fo_hasCounts_70, l_Fo_hasCounts_199, l_Fo_hasCounts_200, f_3_36, f_3_120, kb_54, f_3_48, kb_6, f_3_39, kb_36, kc_0, kb_18, ml_3_90, w_Ta_u16, f_3_136, ty_3_11, kb_50, kc_1, f_3_139, ty_3_14, kc_4, f_3_143, ty_3_12, kb_34, f_3_146, ty_3_13, kb_16, ks_16384, ks_256, f_3_42, kc_2, hO', s_ne _ _ o7, hH']
  refine q_c0 (Nat.le_refl _) (Nat.le_refl _) ?_
  refine c_Ta_u16 (j := 50) (mvT (fun b hb => s_ne _ _ hb) (by omega) hH) (mvB (fun b hb => s_ne _ _ hb)) b1 (by omega) ?_
  simp -implicitDefEqProofs only [s_go, s_nil, s_cons, q_ins, s_op, s_i, s_j, s_a, s_v, s_li, s_lj, s_la, s_liO, s_ljO, s_laO, q_get, q_p1, q_p2, s_n2i, s_n2r, s_n2l, s_n2n, q_pad, q_ar, s_ob, s_obO, q_nth, s_ri, s_riO, s_rb, s_rbO, s_rzO, s_rl, s_rlO, s_rq, s_rqO, s_ry, s_ryO, s_dn, s_tl, s_tn, s_ap, s_an, s_ci, s_cr, s_ni, s_n0, s_n1, q_ags, q_cat, List.contains_nil, List.contains_cons, Nat.reduceBEq, Bool.or_false, Bool.false_or, Bool.true_or, Bool.false_eq_true, ↓reduceIte, Nat.le_refl, Nat.zero_le, true_and, and_true, Nat.reduceLeDiff, Nat.reduceAdd, Nat.add_zero, Nat.zero_add, List.length_cons, List.length_nil, List.set_cons_zero, List.set_cons_succ, Nat.reduceLT, s_fi, s_fl, s_fo, s_fa, s_f0, s_f1, s_set, s_ss, lg_cmp_ge, lg_cmp_le, lg_cmp_gt, lg_cmp_lt, lg_cmp_eq, s_brT, s_brF, s_10, w_Fo_hasCounts, r_Fo_hasCounts, l_Fo_hasCounts_0, l_Fo_hasCounts_36, l_Fo_hasCounts_38, l_Fo_hasCounts_69, l_Fo_hasCounts_70, l_Fo_hasCounts_199, l_Fo_hasCounts_200, f_3_36, f_3_120, kb_54, f_3_48, kb_6, f_3_39, kb_36, kc_0, kb_18, ml_3_90, w_Ta_u16, f_3_136, ty_3_11, kb_50, kc_1, f_3_139, ty_3_14, kc_4, f_3_143, ty_3_12, kb_34, f_3_146, ty_3_13, kb_16, ks_16384, ks_256, f_3_42, kc_2, hO', s_ne _ _ o7, hH']
  generalize hh1 : q_set h o _ = h1
  have f1 : q_1 h h1 o := fun b hb => by rw [← hh1]; exact s_ne _ _ hb
  have O1 : h1 o = some (e_Fo o (nI (U16 F hs hl 18)) gl wd lp) := by rw [← hh1]; exact s_set _ _ _
  have ss : ∀ x, q_set h1 o x = q_set h o x := fun x => by rw [← hh1, s_ss]
  rw [show (1 : Int32) = nI 1 from rfl, nI_eq (by omega) (by omega)]
  refine ⟨fun c3 => ?_, fun c3 => ?_⟩
  · refine z_Fo_hasCounts O1 (mvB f1) (mvT f1 (by omega) hH) (mvT f1 (by omega) hI) (mvT f1 (by omega) hM) (mvT f1 (by omega) hX) b1 b2 b3 b4 ⟨rfl, rfl⟩ ⟨by omega, by omega, by omega⟩ (fun z => ?_) (fun z => ?_)
    · rw [ss]; have := q1 z; rw [q_z_t c3] at this; exact this
    · rw [ss]; exact q0 z _ _ _ _ (Or.inr rfl)
  · refine z_Fo_hasCounts O1 (mvB f1) (mvT f1 (by omega) hH) (mvT f1 (by omega) hI) (mvT f1 (by omega) hM) (mvT f1 (by omega) hX) b1 b2 b3 b4 ⟨rfl, rfl⟩ ⟨by omega, by omega, by omega⟩ (fun z => ?_) (fun z => ?_)
    · rw [ss]; have := q1 z; rw [q_z_f c3] at this; exact this
    · rw [ss]; exact q0 z _ _ _ _ (Or.inl rfl)
/-- glyph g's place in glyf: loca (ls, ll), of U16s to be doubled or of U32s -/
def DP (F : Nat → Nat) (lg : Prop) [Decidable lg] (ls ll g : Nat) : Nat := if lg then U32 F ls ll (4 * g) else 2 * U16 F ls ll (2 * g)
theorem DP_lt {F : Nat → Nat} (hF : ∀ j, F j < 256) (lg : Prop) [Decidable lg] (ls ll g : Nat) : DP F lg ls ll g < 4294967296 := by
  unfold DP
  split
  · exact U32_lt hF _ _ _
  · have := U16_lt hF ls ll (2 * g); omega
set_option maxRecDepth 100000 in
set_option maxHeartbeats 4000000 in
theorem c_Fo_dataPlace {G : q_G} {l : Launch} {d o row m n sz ls ll k : Nat} {em gl wd : Int32} {lg : Prop} [Decidable lg] {g : Nat → Int32} {F : Nat → Nat} {h : q_H} {Q : q_P} (hO : h o = some (e_Fo o em gl wd (q_z lg))) (hB : q_By h (o + 1) row m g sz F) (hL : q_Ta h (o + 10) (o + 1) ls ll) (b1 : ls + ll ≤ sz) (hk : k < 100000) (hq : Q (some (.long (lN (DP F lg ls ll k)))) h n) : q_Call G l M_Fo_dataPlace (d + 2) 0 0 [.ref o, .int (nI k)] h n Q := by
  have hF := hB.2.2.2.2.2.2
  have hO' := hO
  unfold e_Fo at hO'
  have hL' : h (o + 10) = some (.inr (6, [.ref (o + 1), .int (nI ls), .int (nI ll)])) := hL
  unfold DP at hq
  refine q_in u_Fo_dataPlace (by rw [L_Fo_dataPlace]; exact Nat.le_of_ble_eq_true rfl) ?_
  rw [L_Fo_dataPlace]
  refine q_at o_Fo_dataPlace [] 20 l_Fo_dataPlace_0 ?_
  by_cases hl : lg
  · rw [q_z_t hl] at hO'
    rw [if_pos hl] at hq
    simp -implicitDefEqProofs only [s_go, s_nil, s_cons, q_ins, s_op, s_i, s_j, s_a, s_v, s_li, s_lj, s_la, s_liO, s_ljO, s_laO, q_get, q_p1, q_p2, s_n2i, s_n2r, s_n2l, s_n2n, q_pad, q_ar, s_ob, s_obO, q_nth, s_ri, s_riO, s_rb, s_rbO, s_rzO, s_rl, s_rlO, s_rq, s_rqO, s_ry, s_ryO, s_dn, s_tl, s_tn, s_ap, s_an, s_ci, s_cr, s_ni, s_n0, s_n1, q_ags, q_cat, List.contains_nil, List.contains_cons, Nat.reduceBEq, Bool.or_false, Bool.false_or, Bool.true_or, Bool.false_eq_true, ↓reduceIte, Nat.le_refl, Nat.zero_le, true_and, and_true, Nat.reduceLeDiff, Nat.reduceAdd, Nat.add_zero, Nat.zero_add, List.length_cons, List.length_nil, List.set_cons_zero, List.set_cons_succ, Nat.reduceLT, s_fi, s_fl, s_fo, s_fa, s_f0, s_f1, s_set, s_ss, lg_cmp_ge, lg_cmp_le, lg_cmp_gt, lg_cmp_lt, lg_cmp_eq, s_brT, s_brF, s_10, w_Fo_dataPlace, r_Fo_dataPlace, l_Fo_dataPlace_0, l_Fo_dataPlace_20, l_Fo_dataPlace_33, f_3_139, f_3_45, kc_4, ml_3_98, w_Ta_u32, kc_2, ml_3_90, w_Ta_u16, hO', hL']
    rw [show (4 : Int32) * nI k = nI (4 * k) from pk_mul 4 k]
    refine q_c0 (Nat.le_refl _) (Nat.le_refl _) ?_
    refine c_Ta_u32 hL hB b1 (by omega) ?_
    simp -implicitDefEqProofs only [s_go, s_nil, s_cons, q_ins, s_op, s_i, s_j, s_a, s_v, s_li, s_lj, s_la, s_liO, s_ljO, s_laO, q_get, q_p1, q_p2, s_n2i, s_n2r, s_n2l, s_n2n, q_pad, q_ar, s_ob, s_obO, q_nth, s_ri, s_riO, s_rb, s_rbO, s_rzO, s_rl, s_rlO, s_rq, s_rqO, s_ry, s_ryO, s_dn, s_tl, s_tn, s_ap, s_an, s_ci, s_cr, s_ni, s_n0, s_n1, q_ags, q_cat, List.contains_nil, List.contains_cons, Nat.reduceBEq, Bool.or_false, Bool.false_or, Bool.true_or, Bool.false_eq_true, ↓reduceIte, Nat.le_refl, Nat.zero_le, true_and, and_true, Nat.reduceLeDiff, Nat.reduceAdd, Nat.add_zero, Nat.zero_add, List.length_cons, List.length_nil, List.set_cons_zero, List.set_cons_succ, Nat.reduceLT, s_fi, s_fl, s_fo, s_fa, s_f0, s_f1, s_set, s_ss, lg_cmp_ge, lg_cmp_le, lg_cmp_gt, lg_cmp_lt, lg_cmp_eq, s_brT, s_brF, s_10, w_Fo_dataPlace, r_Fo_dataPlace, l_Fo_dataPlace_0, l_Fo_dataPlace_20, l_Fo_dataPlace_33, f_3_139, f_3_45, kc_4, ml_3_98, w_Ta_u32, kc_2, ml_3_90, w_Ta_u16]
    exact hq
  · rw [q_z_f hl] at hO'
    rw [if_neg hl] at hq
    simp -implicitDefEqProofs only [s_go, s_nil, s_cons, q_ins, s_op, s_i, s_j, s_a, s_v, s_li, s_lj, s_la, s_liO, s_ljO, s_laO, q_get, q_p1, q_p2, s_n2i, s_n2r, s_n2l, s_n2n, q_pad, q_ar, s_ob, s_obO, q_nth, s_ri, s_riO, s_rb, s_rbO, s_rzO, s_rl, s_rlO, s_rq, s_rqO, s_ry, s_ryO, s_dn, s_tl, s_tn, s_ap, s_an, s_ci, s_cr, s_ni, s_n0, s_n1, q_ags, q_cat, List.contains_nil, List.contains_cons, Nat.reduceBEq, Bool.or_false, Bool.false_or, Bool.true_or, Bool.false_eq_true, ↓reduceIte, Nat.le_refl, Nat.zero_le, true_and, and_true, Nat.reduceLeDiff, Nat.reduceAdd, Nat.add_zero, Nat.zero_add, List.length_cons, List.length_nil, List.set_cons_zero, List.set_cons_succ, Nat.reduceLT, s_fi, s_fl, s_fo, s_fa, s_f0, s_f1, s_set, s_ss, lg_cmp_ge, lg_cmp_le, lg_cmp_gt, lg_cmp_lt, lg_cmp_eq, s_brT, s_brF, s_10, w_Fo_dataPlace, r_Fo_dataPlace, l_Fo_dataPlace_0, l_Fo_dataPlace_20, l_Fo_dataPlace_33, f_3_139, f_3_45, kc_4, ml_3_98, w_Ta_u32, kc_2, ml_3_90, w_Ta_u16, hO', hL']
    rw [show (2 : Int32) * nI k = nI (2 * k) from pk_mul 2 k]
    refine q_c0 (Nat.le_refl _) (Nat.le_refl _) ?_
    refine c_Ta_u16 hL hB b1 (by omega) ?_
    have := U16_lt hF ls ll (2 * k)
    simp -implicitDefEqProofs only [s_go, s_nil, s_cons, q_ins, s_op, s_i, s_j, s_a, s_v, s_li, s_lj, s_la, s_liO, s_ljO, s_laO, q_get, q_p1, q_p2, s_n2i, s_n2r, s_n2l, s_n2n, q_pad, q_ar, s_ob, s_obO, q_nth, s_ri, s_riO, s_rb, s_rbO, s_rzO, s_rl, s_rlO, s_rq, s_rqO, s_ry, s_ryO, s_dn, s_tl, s_tn, s_ap, s_an, s_ci, s_cr, s_ni, s_n0, s_n1, q_ags, q_cat, List.contains_nil, List.contains_cons, Nat.reduceBEq, Bool.or_false, Bool.false_or, Bool.true_or, Bool.false_eq_true, ↓reduceIte, Nat.le_refl, Nat.zero_le, true_and, and_true, Nat.reduceLeDiff, Nat.reduceAdd, Nat.add_zero, Nat.zero_add, List.length_cons, List.length_nil, List.set_cons_zero, List.set_cons_succ, Nat.reduceLT, s_fi, s_fl, s_fo, s_fa, s_f0, s_f1, s_set, s_ss, lg_cmp_ge, lg_cmp_le, lg_cmp_gt, lg_cmp_lt, lg_cmp_eq, s_brT, s_brF, s_10, w_Fo_dataPlace, r_Fo_dataPlace, l_Fo_dataPlace_0, l_Fo_dataPlace_20, l_Fo_dataPlace_33, f_3_139, f_3_45, kc_4, ml_3_98, w_Ta_u32, kc_2, ml_3_90, w_Ta_u16]
    rw [show (2 : Int32) * nI (U16 F ls ll (2 * k)) = nI (2 * U16 F ls ll (2 * k)) from pk_mul 2 _, nI_l (by omega)]
    exact hq
/-- loca: there are N + 1 numbers, none below the one before, the last not above the length of glyf -/
def PL_ok (F : Nat → Nat) (lg : Prop) [Decidable lg] (ls ll gl2 N : Nat) : Prop := (N + 1) * (if lg then 4 else 2) ≤ ll ∧ (∀ g, g < N → DP F lg ls ll g ≤ DP F lg ls ll (g + 1)) ∧ DP F lg ls ll N ≤ gl2
def q_pb (F : Nat → Nat) (lg : Prop) [Decidable lg] (ls ll g : Nat) : Nat := if g = 0 then 0 else DP F lg ls ll (g - 1)
set_option maxRecDepth 100000 in
set_option maxHeartbeats 4000000 in
theorem z_Fo_hasPlaces {G : q_G} {l : Launch} {d o row m n sz ls ll gs gn N : Nat} {em wd : Int32} {lg : Prop} [Decidable lg] {g : Nat → Int32} {F : Nat → Nat} {h : q_H} {Q : q_P} (hO : h o = some (e_Fo o em (nI N) wd (q_z lg))) (hB : q_By h (o + 1) row m g sz F) (hL : q_Ta h (o + 10) (o + 1) ls ll) (hG : q_Ta h (o + 6) (o + 1) gs gn) (b1 : ls + ll ≤ sz) (b2 : gs + gn ≤ sz) (hN : N ≤ 256) (hh : (N + 1) * (if lg then 4 else 2) ≤ ll)
    (q1 : PL_ok F lg ls ll gn N → Q (some (.int 1)) h n) (q0 : ¬ PL_ok F lg ls ll gn N → Q (some (.int 0)) h n) :
    ∀ (r k : Nat), k + r = N + 1 → (∀ j, j + 1 < k → DP F lg ls ll j ≤ DP F lg ls ll (j + 1)) → q_Z G l M_Fo_hasPlaces (d + 3) 0 0 Q 37 [some (.ref o), some (.long (lN (q_pb F lg ls ll k))), none, some (.int (nI k)), none, none] [] h n 0 0 := by
  have hF := hB.2.2.2.2.2.2
  have hs : sz ≤ 16384 := Nat.le_trans hB.2.2.1 hB.2.2.2.1
  have hO' := hO
  unfold e_Fo at hO'
  have hG' : h (o + 6) = some (.inr (6, [.ref (o + 1), .int (nI gs), .int (nI gn)])) := hG
  intro r
  induction r with
  | zero =>
    intro k hk hall
    have hk : k = N + 1 := by omega
    subst hk
    have b3 := DP_lt hF lg ls ll N
    refine q_at o_Fo_hasPlaces [37] 20 l_Fo_hasPlaces_37 ?_
    simp -implicitDefEqProofs only [s_go, s_nil, s_cons, q_ins, s_op, s_i, s_j, s_a, s_v, s_li, s_lj, s_la, s_liO, s_ljO, s_laO, q_get, q_p1, q_p2, s_n2i, s_n2r, s_n2l, s_n2n, q_pad, q_ar, s_ob, s_obO, q_nth, s_ri, s_riO, s_rb, s_rbO, s_rzO, s_rl, s_rlO, s_rq, s_rqO, s_ry, s_ryO, s_dn, s_tl, s_tn, s_ap, s_an, s_ci, s_cr, s_ni, s_n0, s_n1, q_ags, q_cat, List.contains_nil, List.contains_cons, Nat.reduceBEq, Bool.or_false, Bool.false_or, Bool.true_or, Bool.false_eq_true, ↓reduceIte, Nat.le_refl, Nat.zero_le, true_and, and_true, Nat.reduceLeDiff, Nat.reduceAdd, Nat.add_zero, Nat.zero_add, List.length_cons, List.length_nil, List.set_cons_zero, List.set_cons_succ, Nat.reduceLT, s_fi, s_fl, s_fo, s_fa, s_f0, s_f1, s_set, s_ss, lg_cmp_ge, lg_cmp_le, lg_cmp_gt, lg_cmp_lt, lg_cmp_eq, s_brT, s_brF, s_10, w_Fo_hasPlaces, r_Fo_hasPlaces, l_Fo_hasPlaces_0, l_Fo_hasPlaces_22, l_Fo_hasPlaces_23, l_Fo_hasPlaces_33, l_Fo_hasPlaces_37, l_Fo_hasPlaces_61, l_Fo_hasPlaces_70, l_Fo_hasPlaces_87, l_Fo_hasPlaces_88, f_3_45, kj_0, f_3_143, kc_1, f_3_139, kc_4, kc_2, ml_3_106, w_Ta_holds, kc_0, ml_3_149, w_Fo_dataPlace, f_3_33, f_3_120, hO', hG']
    rw [nI_l (by omega), show q_pb F lg ls ll (N + 1) = DP F lg ls ll N from rfl, pk_lLT (by omega) (by omega)]
    refine ⟨fun _ => ⟨fun c => q0 (fun z => absurd z.2.2 (by omega)), fun c => q1 ⟨hh, fun j hj => hall j (by omega), by omega⟩⟩, fun c => absurd ((nI_ltI (by omega) (by omega)).mpr (Nat.lt_succ_self N)) c⟩
  | succ r ih =>
    intro k hk hall
    refine q_at o_Fo_hasPlaces [37] 20 l_Fo_hasPlaces_37 ?_
    simp -implicitDefEqProofs only [s_go, s_nil, s_cons, q_ins, s_op, s_i, s_j, s_a, s_v, s_li, s_lj, s_la, s_liO, s_ljO, s_laO, q_get, q_p1, q_p2, s_n2i, s_n2r, s_n2l, s_n2n, q_pad, q_ar, s_ob, s_obO, q_nth, s_ri, s_riO, s_rb, s_rbO, s_rzO, s_rl, s_rlO, s_rq, s_rqO, s_ry, s_ryO, s_dn, s_tl, s_tn, s_ap, s_an, s_ci, s_cr, s_ni, s_n0, s_n1, q_ags, q_cat, List.contains_nil, List.contains_cons, Nat.reduceBEq, Bool.or_false, Bool.false_or, Bool.true_or, Bool.false_eq_true, ↓reduceIte, Nat.le_refl, Nat.zero_le, true_and, and_true, Nat.reduceLeDiff, Nat.reduceAdd, Nat.add_zero, Nat.zero_add, List.length_cons, List.length_nil, List.set_cons_zero, List.set_cons_succ, Nat.reduceLT, s_fi, s_fl, s_fo, s_fa, s_f0, s_f1, s_set, s_ss, lg_cmp_ge, lg_cmp_le, lg_cmp_gt, lg_cmp_lt, lg_cmp_eq, s_brT, s_brF, s_10, w_Fo_hasPlaces, r_Fo_hasPlaces, l_Fo_hasPlaces_0, l_Fo_hasPlaces_22, l_Fo_hasPlaces_23, l_Fo_hasPlaces_33, l_Fo_hasPlaces_37, l_Fo_hasPlaces_61, l_Fo_hasPlaces_70, l_Fo_hasPlaces_87, l_Fo_hasPlaces_88, f_3_45, kj_0, f_3_143, kc_1, f_3_139, kc_4, kc_2, ml_3_106, w_Ta_holds, kc_0, ml_3_149, w_Fo_dataPlace, f_3_33, f_3_120, hO', hG']
    refine ⟨fun c => absurd ((nI_ltI (by omega) (by omega)).mp c) (by omega), fun _ => ?_⟩
    refine q_c0 (Nat.le_refl _) (Nat.le_refl _) ?_
    refine c_Fo_dataPlace hO hB hL b1 (by omega) ?_
    simp -implicitDefEqProofs only [s_go, s_nil, s_cons, q_ins, s_op, s_i, s_j, s_a, s_v, s_li, s_lj, s_la, s_liO, s_ljO, s_laO, q_get, q_p1, q_p2, s_n2i, s_n2r, s_n2l, s_n2n, q_pad, q_ar, s_ob, s_obO, q_nth, s_ri, s_riO, s_rb, s_rbO, s_rzO, s_rl, s_rlO, s_rq, s_rqO, s_ry, s_ryO, s_dn, s_tl, s_tn, s_ap, s_an, s_ci, s_cr, s_ni, s_n0, s_n1, q_ags, q_cat, List.contains_nil, List.contains_cons, Nat.reduceBEq, Bool.or_false, Bool.false_or, Bool.true_or, Bool.false_eq_true, ↓reduceIte, Nat.le_refl, Nat.zero_le, true_and, and_true, Nat.reduceLeDiff, Nat.reduceAdd, Nat.add_zero, Nat.zero_add, List.length_cons, List.length_nil, List.set_cons_zero, List.set_cons_succ, Nat.reduceLT, s_fi, s_fl, s_fo, s_fa, s_f0, s_f1, s_set, s_ss, lg_cmp_ge, lg_cmp_le, lg_cmp_gt, lg_cmp_lt, lg_cmp_eq, s_brT, s_brF, s_10, w_Fo_hasPlaces, r_Fo_hasPlaces, l_Fo_hasPlaces_0, l_Fo_hasPlaces_22, l_Fo_hasPlaces_23, l_Fo_hasPlaces_33, l_Fo_hasPlaces_37, l_Fo_hasPlaces_61, l_Fo_hasPlaces_70, l_Fo_hasPlaces_87, l_Fo_hasPlaces_88, f_3_45, kj_0, f_3_143, kc_1, f_3_139, kc_4, kc_2, ml_3_106, w_Ta_holds, kc_0, ml_3_149, w_Fo_dataPlace, f_3_33, f_3_120, hO', hG']
    have b3 := DP_lt hF lg ls ll k
    have b4 := DP_lt hF lg ls ll (k - 1)
    have b5 : q_pb F lg ls ll k < 4294967296 := by unfold q_pb; split <;> omega
    rw [pk_lLE (by omega) (by omega)]
    refine ⟨fun c => ?_, fun c => q0 (fun z => ?_)⟩
    · refine q_wk (ih (k + 1) (by omega) (fun j hj => ?_)) ⟨rfl, rfl, by rw [nI_1], trivial⟩
      rcases Nat.lt_or_ge (j + 1) k with z | z
      · exact hall j z
      · have hj' : j + 1 = k := by omega
        subst hj'
        exact c
    · apply c
      unfold q_pb
      by_cases h0 : k = 0
      · rw [if_pos h0]; omega
      · rw [if_neg h0]
        have := z.2.1 (k - 1) (by omega)
        rw [show k - 1 + 1 = k by omega] at this
        exact this
set_option maxRecDepth 100000 in
set_option maxHeartbeats 4000000 in
theorem c_Fo_hasPlaces {G : q_G} {l : Launch} {d o row m n sz ls ll gs gn N : Nat} {em wd : Int32} {lg : Prop} [Decidable lg] {g : Nat → Int32} {F : Nat → Nat} {h : q_H} {Q : q_P} (hO : h o = some (e_Fo o em (nI N) wd (q_z lg))) (hB : q_By h (o + 1) row m g sz F) (hL : q_Ta h (o + 10) (o + 1) ls ll) (hG : q_Ta h (o + 6) (o + 1) gs gn) (b1 : ls + ll ≤ sz) (b2 : gs + gn ≤ sz) (hN : N ≤ 256)
    (q1 : PL_ok F lg ls ll gn N → Q (some (.int 1)) h n) (q0 : ¬ PL_ok F lg ls ll gn N → Q (some (.int 0)) h n) : q_Call G l M_Fo_hasPlaces (d + 3) 0 0 [.ref o] h n Q := by
  have hs : sz ≤ 16384 := Nat.le_trans hB.2.2.1 hB.2.2.2.1
  have hO' := hO
  unfold e_Fo at hO'
  have hL' : h (o + 10) = some (.inr (6, [.ref (o + 1), .int (nI ls), .int (nI ll)])) := hL
  have fin : ∀ w : Nat, w = (if lg then 4 else 2) → q_Z G l M_Fo_hasPlaces (d + 3) 0 0 Q 23 [some (.ref o), none, none, none, none, none] [.int (nI w), .int (nI (N + 1)), .long 0, .ref (o + 10)] h n 0 0 := by
    intro w hw
    have hw4 : w ≤ 4 := by rw [hw]; split <;> omega
    have hmul : (N + 1) * w ≤ 257 * 4 := Nat.mul_le_mul (by omega) hw4
    refine q_at o_Fo_hasPlaces [37] 20 l_Fo_hasPlaces_23 ?_
    simp -implicitDefEqProofs only [s_go, s_nil, s_cons, q_ins, s_op, s_i, s_j, s_a, s_v, s_li, s_lj, s_la, s_liO, s_ljO, s_laO, q_get, q_p1, q_p2, s_n2i, s_n2r, s_n2l, s_n2n, q_pad, q_ar, s_ob, s_obO, q_nth, s_ri, s_riO, s_rb, s_rbO, s_rzO, s_rl, s_rlO, s_rq, s_rqO, s_ry, s_ryO, s_dn, s_tl, s_tn, s_ap, s_an, s_ci, s_cr, s_ni, s_n0, s_n1, q_ags, q_cat, List.contains_nil, List.contains_cons, Nat.reduceBEq, Bool.or_false, Bool.false_or, Bool.true_or, Bool.false_eq_true, ↓reduceIte, Nat.le_refl, Nat.zero_le, true_and, and_true, Nat.reduceLeDiff, Nat.reduceAdd, Nat.add_zero, Nat.zero_add, List.length_cons, List.length_nil, List.set_cons_zero, List.set_cons_succ, Nat.reduceLT, s_fi, s_fl, s_fo, s_fa, s_f0, s_f1, s_set, s_ss, lg_cmp_ge, lg_cmp_le, lg_cmp_gt, lg_cmp_lt, lg_cmp_eq, s_brT, s_brF, s_10, w_Fo_hasPlaces, r_Fo_hasPlaces, l_Fo_hasPlaces_0, l_Fo_hasPlaces_22, l_Fo_hasPlaces_23, l_Fo_hasPlaces_33, l_Fo_hasPlaces_37, l_Fo_hasPlaces_61, l_Fo_hasPlaces_70, l_Fo_hasPlaces_87, l_Fo_hasPlaces_88, f_3_45, kj_0, f_3_143, kc_1, f_3_139, kc_4, kc_2, ml_3_106, w_Ta_holds, kc_0, ml_3_149, w_Fo_dataPlace, f_3_33, f_3_120, hO', hL']
    rw [pk_mul, nI_l (by omega)]
    refine q_c0 (Nat.le_refl _) (Nat.le_refl _) ?_
    refine c_Ta_holds (x := 0) hL (by omega) (by omega) (by omega) ?_
    simp -implicitDefEqProofs only [s_go, s_nil, s_cons, q_ins, s_op, s_i, s_j, s_a, s_v, s_li, s_lj, s_la, s_liO, s_ljO, s_laO, q_get, q_p1, q_p2, s_n2i, s_n2r, s_n2l, s_n2n, q_pad, q_ar, s_ob, s_obO, q_nth, s_ri, s_riO, s_rb, s_rbO, s_rzO, s_rl, s_rlO, s_rq, s_rqO, s_ry, s_ryO, s_dn, s_tl, s_tn, s_ap, s_an, s_ci, s_cr, s_ni, s_n0, s_n1, q_ags, q_cat, List.contains_nil, List.contains_cons, Nat.reduceBEq, Bool.or_false, Bool.false_or, Bool.true_or, Bool.false_eq_true, ↓reduceIte, Nat.le_refl, Nat.zero_le, true_and, and_true, Nat.reduceLeDiff, Nat.reduceAdd, Nat.add_zero, Nat.zero_add, List.length_cons, List.length_nil, List.set_cons_zero, List.set_cons_succ, Nat.reduceLT, s_fi, s_fl, s_fo, s_fa, s_f0, s_f1, s_set, s_ss, lg_cmp_ge, lg_cmp_le, lg_cmp_gt, lg_cmp_lt, lg_cmp_eq, s_brT, s_brF, s_10, w_Fo_hasPlaces, r_Fo_hasPlaces, l_Fo_hasPlaces_0, l_Fo_hasPlaces_22, l_Fo_hasPlaces_23, l_Fo_hasPlaces_33, l_Fo_hasPlaces_37, l_Fo_hasPlaces_61, l_Fo_hasPlaces_70, l_Fo_hasPlaces_87, l_Fo_hasPlaces_88, f_3_45, kj_0, f_3_143, kc_1, f_3_139, kc_4, kc_2, ml_3_106, w_Ta_holds, kc_0, ml_3_149, w_Fo_dataPlace, f_3_33, f_3_120, hO', hL']
    by_cases hh : (N + 1) * w ≤ ll
    · rw [q_z_t hh]
      refine ⟨fun z => absurd z (by decide), fun _ => ?_⟩
      exact z_Fo_hasPlaces hO hB hL hG b1 b2 hN (by rw [← hw]; omega) q1 q0 (N + 1) 0 (by omega) (fun j hj => absurd hj (by omega))
    · rw [q_z_f hh]
      exact ⟨fun _ => q0 (fun z => by have := z.1; rw [← hw] at this; omega), fun z => absurd rfl z⟩
  refine q_in u_Fo_hasPlaces (by rw [L_Fo_hasPlaces]; exact Nat.le_of_ble_eq_true rfl) ?_
  rw [L_Fo_hasPlaces]
  refine q_at o_Fo_hasPlaces [23] 20 l_Fo_hasPlaces_0 ?_
  simp -implicitDefEqProofs only [s_go, s_nil, s_cons, q_ins, s_op, s_i, s_j, s_a, s_v, s_li, s_lj, s_la, s_liO, s_ljO, s_laO, q_get, q_p1, q_p2, s_n2i, s_n2r, s_n2l, s_n2n, q_pad, q_ar, s_ob, s_obO, q_nth, s_ri, s_riO, s_rb, s_rbO, s_rzO, s_rl, s_rlO, s_rq, s_rqO, s_ry, s_ryO, s_dn, s_tl, s_tn, s_ap, s_an, s_ci, s_cr, s_ni, s_n0, s_n1, q_ags, q_cat, List.contains_nil, List.contains_cons, Nat.reduceBEq, Bool.or_false, Bool.false_or, Bool.true_or, Bool.false_eq_true, ↓reduceIte, Nat.le_refl, Nat.zero_le, true_and, and_true, Nat.reduceLeDiff, Nat.reduceAdd, Nat.add_zero, Nat.zero_add, List.length_cons, List.length_nil, List.set_cons_zero, List.set_cons_succ, Nat.reduceLT, s_fi, s_fl, s_fo, s_fa, s_f0, s_f1, s_set, s_ss, lg_cmp_ge, lg_cmp_le, lg_cmp_gt, lg_cmp_lt, lg_cmp_eq, s_brT, s_brF, s_10, w_Fo_hasPlaces, r_Fo_hasPlaces, l_Fo_hasPlaces_0, l_Fo_hasPlaces_22, l_Fo_hasPlaces_23, l_Fo_hasPlaces_33, l_Fo_hasPlaces_37, l_Fo_hasPlaces_61, l_Fo_hasPlaces_70, l_Fo_hasPlaces_87, l_Fo_hasPlaces_88, f_3_45, kj_0, f_3_143, kc_1, f_3_139, kc_4, kc_2, ml_3_106, w_Ta_holds, kc_0, ml_3_149, w_Fo_dataPlace, f_3_33, f_3_120, hO', hL', nI_1]
  by_cases hl : lg
  · rw [q_z_t hl]
    exact ⟨fun z => absurd z (by decide), fun _ => fin 4 (by rw [if_pos hl])⟩
  · rw [q_z_f hl]
    exact ⟨fun _ => fin 2 (by rw [if_neg hl]), fun z => absurd rfl z⟩
end
section
/-! CharacterMap: is it found, is it well formed -/
def e_Cm (tc : Nat) (og pl mn : Int32) : q_E := .inr (1, [.ref tc, .int og, .int pl, .int mn])
/-- the first of the maps of a kind, from k on among r -/
def FEr (F : Nat → Nat) (cs cl kd : Nat) : Nat → Nat → Option Nat
  | _, 0 => none
  | k, r + 1 => if U16 F cs cl (4 + 8 * k) = 3 ∧ U16 F cs cl (4 + 8 * k + 2) = kd then some k else FEr F cs cl kd (k + 1) r
def q_fe : Option Nat → Int32
  | none => -1
  | some k => nI (4 + 8 * k)
set_option maxRecDepth 100000 in
set_option maxHeartbeats 4000000 in
theorem z_Cm_firstEntry {G : q_G} {l : Launch} {d a tc f row m n sz cs cl kd N : Nat} {og pl mn : Int32} {g : Nat → Int32} {F : Nat → Nat} {h : q_H} {Q : q_P} (hA : h a = some (e_Cm tc og pl mn)) (hT : q_Ta h tc f cs cl) (hB : q_By h f row m g sz F) (hin : cs + cl ≤ sz) (hN : N < 65536) (hkd : kd < 65536) :
    ∀ (r k : Nat), k + r = N → Q (some (.int (q_fe (FEr F cs cl kd k r)))) h n → q_Z G l M_Cm_firstEntry (d + 2) 0 0 Q 2 [some (.ref a), some (.int (nI N)), some (.int (nI kd)), some (.int (nI k)), none] [] h n 0 0 := by
  have hF := hB.2.2.2.2.2.2
  unfold e_Cm at hA
  have hT' : h tc = some (.inr (6, [.ref f, .int (nI cs), .int (nI cl)])) := hT
  intro r
  induction r with
  | zero =>
    intro k hk hq
    refine q_at o_Cm_firstEntry [2] 20 l_Cm_firstEntry_2 ?_
    simp -implicitDefEqProofs only [s_go, s_nil, s_cons, q_ins, s_op, s_i, s_j, s_a, s_v, s_li, s_lj, s_la, s_liO, s_ljO, s_laO, q_get, q_p1, q_p2, s_n2i, s_n2r, s_n2l, s_n2n, q_pad, q_ar, s_ob, s_obO, q_nth, s_ri, s_riO, s_rb, s_rbO, s_rzO, s_rl, s_rlO, s_rq, s_rqO, s_ry, s_ryO, s_dn, s_tl, s_tn, s_ap, s_an, s_ci, s_cr, s_ni, s_n0, s_n1, q_ags, q_cat, List.contains_nil, List.contains_cons, Nat.reduceBEq, Bool.or_false, Bool.false_or, Bool.true_or, Bool.false_eq_true, ↓reduceIte, Nat.le_refl, Nat.zero_le, true_and, and_true, Nat.reduceLeDiff, Nat.reduceAdd, Nat.add_zero, Nat.zero_add, List.length_cons, List.length_nil, List.set_cons_zero, List.set_cons_succ, Nat.reduceLT, s_fi, s_fl, s_fo, s_fa, s_f0, s_f1, s_set, s_ss, lg_cmp_ge, lg_cmp_le, lg_cmp_gt, lg_cmp_lt, lg_cmp_eq, s_brT, s_brF, s_10, w_Cm_firstEntry, r_Cm_firstEntry, l_Cm_firstEntry_0, l_Cm_firstEntry_2, l_Cm_firstEntry_46, l_Cm_firstEntry_52, kc_0, kc_4, kb_8, f_1_9, ml_1_26, w_Ta_u16, kc_3, kc_2, kc_1, kc_m1, hA, hT']
    exact ⟨fun _ => hq, fun c => absurd (nI_le (by omega) (by omega)) c⟩
  | succ r ih =>
    intro k hk hq
    refine q_at o_Cm_firstEntry [2] 20 l_Cm_firstEntry_2 ?_
    simp -implicitDefEqProofs only [s_go, s_nil, s_cons, q_ins, s_op, s_i, s_j, s_a, s_v, s_li, s_lj, s_la, s_liO, s_ljO, s_laO, q_get, q_p1, q_p2, s_n2i, s_n2r, s_n2l, s_n2n, q_pad, q_ar, s_ob, s_obO, q_nth, s_ri, s_riO, s_rb, s_rbO, s_rzO, s_rl, s_rlO, s_rq, s_rqO, s_ry, s_ryO, s_dn, s_tl, s_tn, s_ap, s_an, s_ci, s_cr, s_ni, s_n0, s_n1, q_ags, q_cat, List.contains_nil, List.contains_cons, Nat.reduceBEq, Bool.or_false, Bool.false_or, Bool.true_or, Bool.false_eq_true, ↓reduceIte, Nat.le_refl, Nat.zero_le, true_and, and_true, Nat.reduceLeDiff, Nat.reduceAdd, Nat.add_zero, Nat.zero_add, List.length_cons, List.length_nil, List.set_cons_zero, List.set_cons_succ, Nat.reduceLT, s_fi, s_fl, s_fo, s_fa, s_f0, s_f1, s_set, s_ss, lg_cmp_ge, lg_cmp_le, lg_cmp_gt, lg_cmp_lt, lg_cmp_eq, s_brT, s_brF, s_10, w_Cm_firstEntry, r_Cm_firstEntry, l_Cm_firstEntry_0, l_Cm_firstEntry_2, l_Cm_firstEntry_46, l_Cm_firstEntry_52, kc_0, kc_4, kb_8, f_1_9, ml_1_26, w_Ta_u16, kc_3, kc_2, kc_1, kc_m1, hA, hT']
    refine ⟨fun c => absurd ((nI_leI (by omega) (by omega)).mp c) (by omega), fun _ => ?_⟩
    rw [show (8 : Int32) * nI k = nI (8 * k) from pk_mul 8 k, show (4 : Int32) + nI (8 * k) = nI (4 + 8 * k) from nI_add 4 _]
    refine q_c0 (Nat.le_refl _) (Nat.le_refl _) ?_
    refine c_Ta_u16 hT hB hin (by omega) ?_
    have b1 := U16_lt hF cs cl (4 + 8 * k)
    have b2 := U16_lt hF cs cl (4 + 8 * k + 2)
    simp -implicitDefEqProofs only [s_go, s_nil, s_cons, q_ins, s_op, s_i, s_j, s_a, s_v, s_li, s_lj, s_la, s_liO, s_ljO, s_laO, q_get, q_p1, q_p2, s_n2i, s_n2r, s_n2l, s_n2n, q_pad, q_ar, s_ob, s_obO, q_nth, s_ri, s_riO, s_rb, s_rbO, s_rzO, s_rl, s_rlO, s_rq, s_rqO, s_ry, s_ryO, s_dn, s_tl, s_tn, s_ap, s_an, s_ci, s_cr, s_ni, s_n0, s_n1, q_ags, q_cat, List.contains_nil, List.contains_cons, Nat.reduceBEq, Bool.or_false, Bool.false_or, Bool.true_or, Bool.false_eq_true, ↓reduceIte, Nat.le_refl, Nat.zero_le, true_and, and_true, Nat.reduceLeDiff, Nat.reduceAdd, Nat.add_zero, Nat.zero_add, List.length_cons, List.length_nil, List.set_cons_zero, List.set_cons_succ, Nat.reduceLT, s_fi, s_fl, s_fo, s_fa, s_f0, s_f1, s_set, s_ss, lg_cmp_ge, lg_cmp_le, lg_cmp_gt, lg_cmp_lt, lg_cmp_eq, s_brT, s_brF, s_10, w_Cm_firstEntry, r_Cm_firstEntry, l_Cm_firstEntry_0, l_Cm_firstEntry_2, l_Cm_firstEntry_46, l_Cm_firstEntry_52, kc_0, kc_4, kb_8, f_1_9, ml_1_26, w_Ta_u16, kc_3, kc_2, kc_1, kc_m1, hA, hT']
    rw [show (3 : Int32) = nI 3 from rfl, nI_eq (by omega) (by omega)]
    have nxt : ¬ (U16 F cs cl (4 + 8 * k) = 3 ∧ U16 F cs cl (4 + 8 * k + 2) = kd) → q_Z G l M_Cm_firstEntry (d + 2) 0 0 Q 2 [some (.ref a), some (.int (nI N)), some (.int (nI kd)), some (.int (nI (k + 1))), none] [] h n 0 0 := by
      intro c
      refine ih (k + 1) (by omega) ?_
      have e : FEr F cs cl kd k (r + 1) = FEr F cs cl kd (k + 1) r := by
        show (if _ then some k else FEr F cs cl kd (k + 1) r) = _
        rw [if_neg c]
      rw [e] at hq
      exact hq
    refine ⟨fun c => ?_, fun c => q_wk (nxt (fun z => c z.1)) ⟨rfl, rfl, rfl, by rw [nI_1], trivial⟩⟩
    rw [show nI (4 + 8 * k) + 2 = nI (4 + 8 * k + 2) from nI_add _ 2]
    refine q_c0 (Nat.le_refl _) (Nat.le_refl _) ?_
    refine c_Ta_u16 hT hB hin (by omega) ?_
    simp -implicitDefEqProofs only [s_go, s_nil, s_cons, q_ins, s_op, s_i, s_j, s_a, s_v, s_li, s_lj, s_la, s_liO, s_ljO, s_laO, q_get, q_p1, q_p2, s_n2i, s_n2r, s_n2l, s_n2n, q_pad, q_ar, s_ob, s_obO, q_nth, s_ri, s_riO, s_rb, s_rbO, s_rzO, s_rl, s_rlO, s_rq, s_rqO, s_ry, s_ryO, s_dn, s_tl, s_tn, s_ap, s_an, s_ci, s_cr, s_ni, s_n0, s_n1, q_ags, q_cat, List.contains_nil, List.contains_cons, Nat.reduceBEq, Bool.or_false, Bool.false_or, Bool.true_or, Bool.false_eq_true, ↓reduceIte, Nat.le_refl, Nat.zero_le, true_and, and_true, Nat.reduceLeDiff, Nat.reduceAdd, Nat.add_zero, Nat.zero_add, List.length_cons, List.length_nil, List.set_cons_zero, List.set_cons_succ, Nat.reduceLT, s_fi, s_fl, s_fo, s_fa, s_f0, s_f1, s_set, s_ss, lg_cmp_ge, lg_cmp_le, lg_cmp_gt, lg_cmp_lt, lg_cmp_eq, s_brT, s_brF, s_10, w_Cm_firstEntry, r_Cm_firstEntry, l_Cm_firstEntry_0, l_Cm_firstEntry_2, l_Cm_firstEntry_46, l_Cm_firstEntry_52, kc_0, kc_4, kb_8, f_1_9, ml_1_26, w_Ta_u16, kc_3, kc_2, kc_1, kc_m1, hA, hT']
    rw [nI_eq (by omega) (by omega)]
    refine ⟨fun c1 => ?_, fun c1 => q_wk (nxt (fun z => c1 z.2)) ⟨rfl, rfl, rfl, by rw [nI_1], trivial⟩⟩
    have e : FEr F cs cl kd k (r + 1) = some k := by
      show (if _ then some k else FEr F cs cl kd (k + 1) r) = _
      rw [if_pos ⟨c, c1⟩]
    rw [e] at hq
    exact hq
set_option maxRecDepth 100000 in
set_option maxHeartbeats 4000000 in
theorem c_Cm_firstEntry {G : q_G} {l : Launch} {d a tc f row m n sz cs cl kd N : Nat} {og pl mn : Int32} {g : Nat → Int32} {F : Nat → Nat} {h : q_H} {Q : q_P} (hA : h a = some (e_Cm tc og pl mn)) (hT : q_Ta h tc f cs cl) (hB : q_By h f row m g sz F) (hin : cs + cl ≤ sz) (hN : N < 65536) (hkd : kd < 65536) (hq : Q (some (.int (q_fe (FEr F cs cl kd 0 N)))) h n) : q_Call G l M_Cm_firstEntry (d + 2) 0 0 [.ref a, .int (nI N), .int (nI kd)] h n Q := by
  refine q_in u_Cm_firstEntry (by rw [L_Cm_firstEntry]; exact Nat.le_of_ble_eq_true rfl) ?_
  rw [L_Cm_firstEntry]
  refine q_at o_Cm_firstEntry [2] 20 l_Cm_firstEntry_0 ?_
  simp -implicitDefEqProofs only [s_go, s_nil, s_cons, q_ins, s_op, s_i, s_j, s_a, s_v, s_li, s_lj, s_la, s_liO, s_ljO, s_laO, q_get, q_p1, q_p2, s_n2i, s_n2r, s_n2l, s_n2n, q_pad, q_ar, s_ob, s_obO, q_nth, s_ri, s_riO, s_rb, s_rbO, s_rzO, s_rl, s_rlO, s_rq, s_rqO, s_ry, s_ryO, s_dn, s_tl, s_tn, s_ap, s_an, s_ci, s_cr, s_ni, s_n0, s_n1, q_ags, q_cat, List.contains_nil, List.contains_cons, Nat.reduceBEq, Bool.or_false, Bool.false_or, Bool.true_or, Bool.false_eq_true, ↓reduceIte, Nat.le_refl, Nat.zero_le, true_and, and_true, Nat.reduceLeDiff, Nat.reduceAdd, Nat.add_zero, Nat.zero_add, List.length_cons, List.length_nil, List.set_cons_zero, List.set_cons_succ, Nat.reduceLT, s_fi, s_fl, s_fo, s_fa, s_f0, s_f1, s_set, s_ss, lg_cmp_ge, lg_cmp_le, lg_cmp_gt, lg_cmp_lt, lg_cmp_eq, s_brT, s_brF, s_10, w_Cm_firstEntry, r_Cm_firstEntry, l_Cm_firstEntry_0, l_Cm_firstEntry_2, l_Cm_firstEntry_46, l_Cm_firstEntry_52, kc_0, kc_4, kb_8, f_1_9, ml_1_26, w_Ta_u16, kc_3, kc_2, kc_1, kc_m1]
  exact z_Cm_firstEntry hA hT hB hin hN hkd N 0 (by omega) hq
set_option maxRecDepth 100000 in
set_option maxHeartbeats 4000000 in
theorem c_Cm_lastOf {G : q_G} {l : Launch} {d a tc f row m n sz cs cl p k : Nat} {og mn : Int32} {g : Nat → Int32} {F : Nat → Nat} {h : q_H} {Q : q_P} (hA : h a = some (e_Cm tc og (nI p) mn)) (hT : q_Ta h tc f cs cl) (hB : q_By h f row m g sz F) (hin : cs + cl ≤ sz) (hp : p ≤ 16384) (hk : k < 100000) (hq : Q (some (.int (nI (U16 F cs cl (p + 14 + 2 * k))))) h n) : q_Call G l M_Cm_lastOf (d + 2) 0 0 [.ref a, .int (nI k)] h n Q := by
  unfold e_Cm at hA
  have hT' : h tc = some (.inr (6, [.ref f, .int (nI cs), .int (nI cl)])) := hT
  refine q_in u_Cm_lastOf (by rw [L_Cm_lastOf]; exact Nat.le_of_ble_eq_true rfl) ?_
  rw [L_Cm_lastOf]
  refine q_at o_Cm_lastOf [] 20 l_Cm_lastOf_0 ?_
  simp -implicitDefEqProofs only [s_go, s_nil, s_cons, q_ins, s_op, s_i, s_j, s_a, s_v, s_li, s_lj, s_la, s_liO, s_ljO, s_laO, q_get, q_p1, q_p2, s_n2i, s_n2r, s_n2l, s_n2n, q_pad, q_ar, s_ob, s_obO, q_nth, s_ri, s_riO, s_rb, s_rbO, s_rzO, s_rl, s_rlO, s_rq, s_rqO, s_ry, s_ryO, s_dn, s_tl, s_tn, s_ap, s_an, s_ci, s_cr, s_ni, s_n0, s_n1, q_ags, q_cat, List.contains_nil, List.contains_cons, Nat.reduceBEq, Bool.or_false, Bool.false_or, Bool.true_or, Bool.false_eq_true, ↓reduceIte, Nat.le_refl, Nat.zero_le, true_and, and_true, Nat.reduceLeDiff, Nat.reduceAdd, Nat.add_zero, Nat.zero_add, List.length_cons, List.length_nil, List.set_cons_zero, List.set_cons_succ, Nat.reduceLT, s_fi, s_fl, s_fo, s_fa, s_f0, s_f1, s_set, s_ss, lg_cmp_ge, lg_cmp_le, lg_cmp_gt, lg_cmp_lt, lg_cmp_eq, s_brT, s_brF, s_10, w_Cm_lastOf, r_Cm_lastOf, l_Cm_lastOf_0, f_1_9, f_1_19, kb_14, kc_2, ml_1_26, w_Ta_u16, hA, hT']
  rw [show (2 : Int32) * nI k = nI (2 * k) from pk_mul 2 k, show nI p + 14 = nI (p + 14) from nI_add p 14, nI_add]
  refine q_c0 (Nat.le_refl _) (Nat.le_refl _) ?_
  refine c_Ta_u16 hT hB hin (by omega) ?_
  simp -implicitDefEqProofs only [s_go, s_nil, s_cons, q_ins, s_op, s_i, s_j, s_a, s_v, s_li, s_lj, s_la, s_liO, s_ljO, s_laO, q_get, q_p1, q_p2, s_n2i, s_n2r, s_n2l, s_n2n, q_pad, q_ar, s_ob, s_obO, q_nth, s_ri, s_riO, s_rb, s_rbO, s_rzO, s_rl, s_rlO, s_rq, s_rqO, s_ry, s_ryO, s_dn, s_tl, s_tn, s_ap, s_an, s_ci, s_cr, s_ni, s_n0, s_n1, q_ags, q_cat, List.contains_nil, List.contains_cons, Nat.reduceBEq, Bool.or_false, Bool.false_or, Bool.true_or, Bool.false_eq_true, ↓reduceIte, Nat.le_refl, Nat.zero_le, true_and, and_true, Nat.reduceLeDiff, Nat.reduceAdd, Nat.add_zero, Nat.zero_add, List.length_cons, List.length_nil, List.set_cons_zero, List.set_cons_succ, Nat.reduceLT, s_fi, s_fl, s_fo, s_fa, s_f0, s_f1, s_set, s_ss, lg_cmp_ge, lg_cmp_le, lg_cmp_gt, lg_cmp_lt, lg_cmp_eq, s_brT, s_brF, s_10, w_Cm_lastOf, r_Cm_lastOf, l_Cm_lastOf_0, f_1_9, f_1_19, kb_14, kc_2, ml_1_26, w_Ta_u16]
  exact hq
set_option maxRecDepth 100000 in
set_option maxHeartbeats 4000000 in
theorem c_Cm_firstOf {G : q_G} {l : Launch} {d a tc f row m n sz cs cl p k S : Nat} {og : Int32} {g : Nat → Int32} {F : Nat → Nat} {h : q_H} {Q : q_P} (hA : h a = some (e_Cm tc og (nI p) (nI S))) (hT : q_Ta h tc f cs cl) (hB : q_By h f row m g sz F) (hin : cs + cl ≤ sz) (hp : p ≤ 16384) (hS : S < 100000) (hk : k < 100000) (hq : Q (some (.int (nI (U16 F cs cl (p + 16 + 2 * S + 2 * k))))) h n) : q_Call G l M_Cm_firstOf (d + 2) 0 0 [.ref a, .int (nI k)] h n Q := by
  unfold e_Cm at hA
  have hT' : h tc = some (.inr (6, [.ref f, .int (nI cs), .int (nI cl)])) := hT
  refine q_in u_Cm_firstOf (by rw [L_Cm_firstOf]; exact Nat.le_of_ble_eq_true rfl) ?_
  rw [L_Cm_firstOf]
  refine q_at o_Cm_firstOf [] 20 l_Cm_firstOf_0 ?_
  simp -implicitDefEqProofs only [s_go, s_nil, s_cons, q_ins, s_op, s_i, s_j, s_a, s_v, s_li, s_lj, s_la, s_liO, s_ljO, s_laO, q_get, q_p1, q_p2, s_n2i, s_n2r, s_n2l, s_n2n, q_pad, q_ar, s_ob, s_obO, q_nth, s_ri, s_riO, s_rb, s_rbO, s_rzO, s_rl, s_rlO, s_rq, s_rqO, s_ry, s_ryO, s_dn, s_tl, s_tn, s_ap, s_an, s_ci, s_cr, s_ni, s_n0, s_n1, q_ags, q_cat, List.contains_nil, List.contains_cons, Nat.reduceBEq, Bool.or_false, Bool.false_or, Bool.true_or, Bool.false_eq_true, ↓reduceIte, Nat.le_refl, Nat.zero_le, true_and, and_true, Nat.reduceLeDiff, Nat.reduceAdd, Nat.add_zero, Nat.zero_add, List.length_cons, List.length_nil, List.set_cons_zero, List.set_cons_succ, Nat.reduceLT, s_fi, s_fl, s_fo, s_fa, s_f0, s_f1, s_set, s_ss, lg_cmp_ge, lg_cmp_le, lg_cmp_gt, lg_cmp_lt, lg_cmp_eq, s_brT, s_brF, s_10, w_Cm_firstOf, r_Cm_firstOf, l_Cm_firstOf_0, f_1_9, f_1_19, kb_16, kc_2, f_1_23, ml_1_26, w_Ta_u16, hA, hT']
  rw [show (2 : Int32) * nI k = nI (2 * k) from pk_mul 2 k, show (2 : Int32) * nI S = nI (2 * S) from pk_mul 2 S, show nI p + 16 = nI (p + 16) from nI_add p 16, nI_add, nI_add]
  refine q_c0 (Nat.le_refl _) (Nat.le_refl _) ?_
  refine c_Ta_u16 hT hB hin (by omega) ?_
  simp -implicitDefEqProofs only [s_go, s_nil, s_cons, q_ins, s_op, s_i, s_j, s_a, s_v, s_li, s_lj, s_la, s_liO, s_ljO, s_laO, q_get, q_p1, q_p2, s_n2i, s_n2r, s_n2l, s_n2n, q_pad, q_ar, s_ob, s_obO, q_nth, s_ri, s_riO, s_rb, s_rbO, s_rzO, s_rl, s_rlO, s_rq, s_rqO, s_ry, s_ryO, s_dn, s_tl, s_tn, s_ap, s_an, s_ci, s_cr, s_ni, s_n0, s_n1, q_ags, q_cat, List.contains_nil, List.contains_cons, Nat.reduceBEq, Bool.or_false, Bool.false_or, Bool.true_or, Bool.false_eq_true, ↓reduceIte, Nat.le_refl, Nat.zero_le, true_and, and_true, Nat.reduceLeDiff, Nat.reduceAdd, Nat.add_zero, Nat.zero_add, List.length_cons, List.length_nil, List.set_cons_zero, List.set_cons_succ, Nat.reduceLT, s_fi, s_fl, s_fo, s_fa, s_f0, s_f1, s_set, s_ss, lg_cmp_ge, lg_cmp_le, lg_cmp_gt, lg_cmp_lt, lg_cmp_eq, s_brT, s_brF, s_10, w_Cm_firstOf, r_Cm_firstOf, l_Cm_firstOf_0, f_1_9, f_1_19, kb_16, kc_2, f_1_23, ml_1_26, w_Ta_u16]
  exact hq
/-- groups of the map at p: first, last of the k-th -/
def g_f (F : Nat → Nat) (cs cl p k : Nat) : Nat := U32 F cs cl (p + 16 + 12 * k)
def g_l (F : Nat → Nat) (cs cl p k : Nat) : Nat := U32 F cs cl (p + 16 + 12 * k + 4)
def g_ok (F : Nat → Nat) (cs cl p k : Nat) : Prop := (0 < k → g_l F cs cl p (k - 1) < g_f F cs cl p k) ∧ g_f F cs cl p k ≤ g_l F cs cl p k
def GR_ok (F : Nat → Nat) (cs cl p : Nat) : Prop := p + 16 ≤ cl ∧ U16 F cs cl p = 12 ∧ p + 16 + 12 * U32 F cs cl (p + 12) ≤ cl ∧ (∀ k, k < U32 F cs cl (p + 12) → g_ok F cs cl p k) ∧ (0 < U32 F cs cl (p + 12) → g_l F cs cl p (U32 F cs cl (p + 12) - 1) ≤ 1114111)
def q_gb (F : Nat → Nat) (cs cl p k : Nat) : Int64 := if k = 0 then -1 else lN (g_l F cs cl p (k - 1))
theorem q_gb_le {F : Nat → Nat} (hF : ∀ j, F j < 256) {cs cl p k : Nat} : (lN (g_f F cs cl p k) ≤ q_gb F cs cl p k) ↔ ¬ (0 < k → g_l F cs cl p (k - 1) < g_f F cs cl p k) := by
  have b1 := U32_lt hF cs cl (p + 16 + 12 * k)
  have b2 := U32_lt hF cs cl (p + 16 + 12 * (k - 1) + 4)
  unfold q_gb
  by_cases hk : k = 0
  · subst hk
    rw [if_pos rfl]
    constructor
    · intro h; exact absurd h (q_lm1 (by unfold g_f; omega))
    · intro h; exact absurd (fun z => absurd z (by omega)) h
  · rw [if_neg hk, pk_lLE (by unfold g_f; omega) (by unfold g_l; omega)]
    constructor
    · intro h z; have := z (by omega); omega
    · intro h
      rcases Nat.lt_or_ge (g_l F cs cl p (k - 1)) (g_f F cs cl p k) with q | q
      · exact absurd (fun _ => q) h
      · exact q
set_option maxRecDepth 100000 in
set_option maxHeartbeats 4000000 in
theorem z_Cm_hasGroups {G : q_G} {l : Launch} {d a tc f row m n sz cs cl p : Nat} {og : Int32} {x1 : Int64} {g : Nat → Int32} {F : Nat → Nat} {h : q_H} {Q : q_P} (hA : h a = some (e_Cm tc og (nI p) (nI (U32 F cs cl (p + 12))))) (hT : q_Ta h tc f cs cl) (hB : q_By h f row m g sz F) (hin : cs + cl ≤ sz) (c0 : p + 16 ≤ cl) (c1 : U16 F cs cl p = 12) (c2 : p + 16 + 12 * U32 F cs cl (p + 12) ≤ cl)
    (q1 : GR_ok F cs cl p → Q (some (.int 1)) h n) (q0 : ¬ GR_ok F cs cl p → Q (some (.int 0)) h n) :
    ∀ (r k : Nat), k + r = U32 F cs cl (p + 12) → (∀ j, j < k → g_ok F cs cl p j) → q_Z G l M_Cm_hasGroups (d + 2) 0 0 Q 89 [some (.ref a), some (.long x1), none, some (.long (q_gb F cs cl p k)), none, some (.int (nI k)), none, none, none, none, none] [] h n 0 0 := by
  have hF := hB.2.2.2.2.2.2
  have hs : sz ≤ 16384 := Nat.le_trans hB.2.2.1 hB.2.2.2.1
  have hA' := hA
  unfold e_Cm at hA'
  have hT' : h tc = some (.inr (6, [.ref f, .int (nI cs), .int (nI cl)])) := hT
  intro r
  induction r with
  | zero =>
    intro k hk hall
    have hk : k = U32 F cs cl (p + 12) := by omega
    have b2 := U32_lt hF cs cl (p + 16 + 12 * (k - 1) + 4)
    refine q_at o_Cm_hasGroups [89] 20 l_Cm_hasGroups_89 ?_
    simp -implicitDefEqProofs only [s_go, s_nil, s_cons, q_ins, s_op, s_i, s_j, s_a, s_v, s_li, s_lj, s_la, s_liO, s_ljO, s_laO, q_get, q_p1, q_p2, s_n2i, s_n2r, s_n2l, s_n2n, q_pad, q_ar, s_ob, s_obO, q_nth, s_ri, s_riO, s_rb, s_rbO, s_rzO, s_rl, s_rlO, s_rq, s_rqO, s_ry, s_ryO, s_dn, s_tl, s_tn, s_ap, s_an, s_ci, s_cr, s_ni, s_n0, s_n1, q_ags, q_cat, List.contains_nil, List.contains_cons, Nat.reduceBEq, Bool.or_false, Bool.false_or, Bool.true_or, Bool.false_eq_true, ↓reduceIte, Nat.le_refl, Nat.zero_le, true_and, and_true, Nat.reduceLeDiff, Nat.reduceAdd, Nat.add_zero, Nat.zero_add, List.length_cons, List.length_nil, List.set_cons_zero, List.set_cons_succ, Nat.reduceLT, s_fi, s_fl, s_fo, s_fa, s_f0, s_f1, s_set, s_ss, lg_cmp_ge, lg_cmp_le, lg_cmp_gt, lg_cmp_lt, lg_cmp_eq, s_brT, s_brF, s_10, w_Cm_hasGroups, r_Cm_hasGroups, l_Cm_hasGroups_0, l_Cm_hasGroups_34, l_Cm_hasGroups_36, l_Cm_hasGroups_76, l_Cm_hasGroups_89, l_Cm_hasGroups_152, l_Cm_hasGroups_154, l_Cm_hasGroups_163, l_Cm_hasGroups_175, l_Cm_hasGroups_176, f_1_9, f_1_19, kl_1_56, ml_1_34, w_Ta_holds, ml_1_26, w_Ta_u16, kb_12, kc_0, ml_1_42, w_Ta_u32, kb_16, kl_1_58, f_1_23, ty_1_3, kl_1_60, kc_4, kc_1, kl_1_62, hA', hT']
    refine ⟨fun _ => ?_, fun c => absurd (nI_le (by omega) (by omega)) c⟩
    have key : ((1114111 : Int64) < q_gb F cs cl p k) ↔ ¬ (0 < U32 F cs cl (p + 12) → g_l F cs cl p (U32 F cs cl (p + 12) - 1) ≤ 1114111) := by
      unfold q_gb
      rw [← hk]
      by_cases h0 : k = 0
      · rw [if_pos h0]
        exact ⟨fun z => absurd z (by decide), fun z => absurd (fun y => absurd y (by omega)) z⟩
      · rw [if_neg h0, show (1114111 : Int64) = lN 1114111 from rfl, pk_lLT (by omega) (by unfold g_l; omega)]
        constructor
        · intro z y; have := y (by omega); omega
        · intro z
          rcases Nat.lt_or_ge 1114111 (g_l F cs cl p (k - 1)) with y | y
          · exact y
          · exact absurd (fun _ => y) z
    rw [key]
    exact ⟨fun z => q0 (fun y => z y.2.2.2.2), fun z => q1 ⟨c0, c1, c2, by rw [← hk]; exact hall, Classical.not_not.mp z⟩⟩
  | succ r ih =>
    intro k hk hall
    have b1 := U32_lt hF cs cl (p + 16 + 12 * k)
    have b2 := U32_lt hF cs cl (p + 16 + 12 * k + 4)
    refine q_at o_Cm_hasGroups [89] 20 l_Cm_hasGroups_89 ?_
    simp -implicitDefEqProofs only [s_go, s_nil, s_cons, q_ins, s_op, s_i, s_j, s_a, s_v, s_li, s_lj, s_la, s_liO, s_ljO, s_laO, q_get, q_p1, q_p2, s_n2i, s_n2r, s_n2l, s_n2n, q_pad, q_ar, s_ob, s_obO, q_nth, s_ri, s_riO, s_rb, s_rbO, s_rzO, s_rl, s_rlO, s_rq, s_rqO, s_ry, s_ryO, s_dn, s_tl, s_tn, s_ap, s_an, s_ci, s_cr, s_ni, s_n0, s_n1, q_ags, q_cat, List.contains_nil, List.contains_cons, Nat.reduceBEq, Bool.or_false, Bool.false_or, Bool.true_or, Bool.false_eq_true, ↓reduceIte, Nat.le_refl, Nat.zero_le, true_and, and_true, Nat.reduceLeDiff, Nat.reduceAdd, Nat.add_zero, Nat.zero_add, List.length_cons, List.length_nil, List.set_cons_zero, List.set_cons_succ, Nat.reduceLT, s_fi, s_fl, s_fo, s_fa, s_f0, s_f1, s_set, s_ss, lg_cmp_ge, lg_cmp_le, lg_cmp_gt, lg_cmp_lt, lg_cmp_eq, s_brT, s_brF, s_10, w_Cm_hasGroups, r_Cm_hasGroups, l_Cm_hasGroups_0, l_Cm_hasGroups_34, l_Cm_hasGroups_36, l_Cm_hasGroups_76, l_Cm_hasGroups_89, l_Cm_hasGroups_152, l_Cm_hasGroups_154, l_Cm_hasGroups_163, l_Cm_hasGroups_175, l_Cm_hasGroups_176, f_1_9, f_1_19, kl_1_56, ml_1_34, w_Ta_holds, ml_1_26, w_Ta_u16, kb_12, kc_0, ml_1_42, w_Ta_u32, kb_16, kl_1_58, f_1_23, ty_1_3, kl_1_60, kc_4, kc_1, kl_1_62, hA', hT']
    refine ⟨fun c => absurd ((nI_leI (by omega) (by omega)).mp c) (by omega), fun _ => ?_⟩
    rw [show (12 : Int32) * nI k = nI (12 * k) from pk_mul 12 k, show nI p + 16 = nI (p + 16) from nI_add p 16, nI_add]
    refine q_c0 (Nat.le_refl _) (Nat.le_refl _) ?_
    refine c_Ta_u32 hT hB hin (by omega) ?_
    simp -implicitDefEqProofs only [s_go, s_nil, s_cons, q_ins, s_op, s_i, s_j, s_a, s_v, s_li, s_lj, s_la, s_liO, s_ljO, s_laO, q_get, q_p1, q_p2, s_n2i, s_n2r, s_n2l, s_n2n, q_pad, q_ar, s_ob, s_obO, q_nth, s_ri, s_riO, s_rb, s_rbO, s_rzO, s_rl, s_rlO, s_rq, s_rqO, s_ry, s_ryO, s_dn, s_tl, s_tn, s_ap, s_an, s_ci, s_cr, s_ni, s_n0, s_n1, q_ags, q_cat, List.contains_nil, List.contains_cons, Nat.reduceBEq, Bool.or_false, Bool.false_or, Bool.true_or, Bool.false_eq_true, ↓reduceIte, Nat.le_refl, Nat.zero_le, true_and, and_true, Nat.reduceLeDiff, Nat.reduceAdd, Nat.add_zero, Nat.zero_add, List.length_cons, List.length_nil, List.set_cons_zero, List.set_cons_succ, Nat.reduceLT, s_fi, s_fl, s_fo, s_fa, s_f0, s_f1, s_set, s_ss, lg_cmp_ge, lg_cmp_le, lg_cmp_gt, lg_cmp_lt, lg_cmp_eq, s_brT, s_brF, s_10, w_Cm_hasGroups, r_Cm_hasGroups, l_Cm_hasGroups_0, l_Cm_hasGroups_34, l_Cm_hasGroups_36, l_Cm_hasGroups_76, l_Cm_hasGroups_89, l_Cm_hasGroups_152, l_Cm_hasGroups_154, l_Cm_hasGroups_163, l_Cm_hasGroups_175, l_Cm_hasGroups_176, f_1_9, f_1_19, kl_1_56, ml_1_34, w_Ta_holds, ml_1_26, w_Ta_u16, kb_12, kc_0, ml_1_42, w_Ta_u32, kb_16, kl_1_58, f_1_23, ty_1_3, kl_1_60, kc_4, kc_1, kl_1_62, hA', hT']
    rw [show nI (p + 16 + 12 * k) + 4 = nI (p + 16 + 12 * k + 4) from nI_add _ 4]
    refine q_c0 (Nat.le_refl _) (Nat.le_refl _) ?_
    refine c_Ta_u32 hT hB hin (by omega) ?_
    simp -implicitDefEqProofs only [s_go, s_nil, s_cons, q_ins, s_op, s_i, s_j, s_a, s_v, s_li, s_lj, s_la, s_liO, s_ljO, s_laO, q_get, q_p1, q_p2, s_n2i, s_n2r, s_n2l, s_n2n, q_pad, q_ar, s_ob, s_obO, q_nth, s_ri, s_riO, s_rb, s_rbO, s_rzO, s_rl, s_rlO, s_rq, s_rqO, s_ry, s_ryO, s_dn, s_tl, s_tn, s_ap, s_an, s_ci, s_cr, s_ni, s_n0, s_n1, q_ags, q_cat, List.contains_nil, List.contains_cons, Nat.reduceBEq, Bool.or_false, Bool.false_or, Bool.true_or, Bool.false_eq_true, ↓reduceIte, Nat.le_refl, Nat.zero_le, true_and, and_true, Nat.reduceLeDiff, Nat.reduceAdd, Nat.add_zero, Nat.zero_add, List.length_cons, List.length_nil, List.set_cons_zero, List.set_cons_succ, Nat.reduceLT, s_fi, s_fl, s_fo, s_fa, s_f0, s_f1, s_set, s_ss, lg_cmp_ge, lg_cmp_le, lg_cmp_gt, lg_cmp_lt, lg_cmp_eq, s_brT, s_brF, s_10, w_Cm_hasGroups, r_Cm_hasGroups, l_Cm_hasGroups_0, l_Cm_hasGroups_34, l_Cm_hasGroups_36, l_Cm_hasGroups_76, l_Cm_hasGroups_89, l_Cm_hasGroups_152, l_Cm_hasGroups_154, l_Cm_hasGroups_163, l_Cm_hasGroups_175, l_Cm_hasGroups_176, f_1_9, f_1_19, kl_1_56, ml_1_34, w_Ta_holds, ml_1_26, w_Ta_u16, kb_12, kc_0, ml_1_42, w_Ta_u32, kb_16, kl_1_58, f_1_23, ty_1_3, kl_1_60, kc_4, kc_1, kl_1_62, hA', hT']
    rw [show lN (U32 F cs cl (p + 16 + 12 * k)) = lN (g_f F cs cl p k) from rfl, q_gb_le hF, pk_lLE (by unfold g_f; omega) (by omega)]
    refine ⟨fun c => q0 (fun z => c (z.2.2.2.1 k (by omega)).1), fun c => ⟨fun c3 => ?_, fun c3 => q0 (fun z => c3 (z.2.2.2.1 k (by omega)).2)⟩⟩
    refine q_wk (ih (k + 1) (by omega) (fun j hj => ?_)) ⟨rfl, rfl, ?_, by rw [nI_1], trivial⟩
    · rcases Nat.lt_or_ge j k with z | z
      · exact hall j z
      · have : j = k := by omega
        subst this
        exact ⟨Classical.not_not.mp c, c3⟩
    · unfold q_gb
      rw [if_neg (by omega)]
      rfl
set_option maxRecDepth 100000 in
set_option maxHeartbeats 4000000 in
theorem c_Cm_hasGroups {G : q_G} {l : Launch} {d a tc f row m n sz cs cl p : Nat} {og mn : Int32} {g : Nat → Int32} {F : Nat → Nat} {h : q_H} {Q : q_P} (hA : h a = some (e_Cm tc og (nI p) mn)) (hT : q_Ta h tc f cs cl) (hB : q_By h f row m g sz F) (hin : cs + cl ≤ sz) (hp : p ≤ cl)
    (q1 : GR_ok F cs cl p → Q (some (.int 1)) (q_set h a (e_Cm tc og (nI p) (nI (U32 F cs cl (p + 12))))) n) (q0 : ¬ GR_ok F cs cl p → ∀ mn, Q (some (.int 0)) (q_set h a (e_Cm tc og (nI p) mn)) n) : q_Call G l M_Cm_hasGroups (d + 2) 0 0 [.ref a] h n Q := by
  have hF := hB.2.2.2.2.2.2
  have hs : sz ≤ 16384 := Nat.le_trans hB.2.2.1 hB.2.2.2.1
  have hA' := hA
  unfold e_Cm at hA'
  have hT' : h tc = some (.inr (6, [.ref f, .int (nI cs), .int (nI cl)])) := hT
  have q0' : ¬ GR_ok F cs cl p → Q (some (.int 0)) h n := fun z => by
    have := q0 z mn
    rw [s_id h hA] at this
    exact this
  have bu := U16_lt hF cs cl p
  have bn := U32_lt hF cs cl (p + 12)
  have hta : tc ≠ a := fun q => by rw [q, hA'] at hT'; cases hT'
  have hfa : f ≠ a := fun q => by have := hB.1; rw [q, hA'] at this; cases this
  have hra := hB.ne hA'
  refine q_in u_Cm_hasGroups (by rw [L_Cm_hasGroups]; exact Nat.le_of_ble_eq_true rfl) ?_
  rw [L_Cm_hasGroups]
  refine q_at o_Cm_hasGroups [89] 20 l_Cm_hasGroups_0 ?_
  simp -implicitDefEqProofs only [s_go, s_nil, s_cons, q_ins, s_op, s_i, s_j, s_a, s_v, s_li, s_lj, s_la, s_liO, s_ljO, s_laO, q_get, q_p1, q_p2, s_n2i, s_n2r, s_n2l, s_n2n, q_pad, q_ar, s_ob, s_obO, q_nth, s_ri, s_riO, s_rb, s_rbO, s_rzO, s_rl, s_rlO, s_rq, s_rqO, s_ry, s_ryO, s_dn, s_tl, s_tn, s_ap, s_an, s_ci, s_cr, s_ni, s_n0, s_n1, q_ags, q_cat, List.contains_nil, List.contains_cons, Nat.reduceBEq, Bool.or_false, Bool.false_or, Bool.true_or, Bool.false_eq_true, ↓reduceIte, Nat.le_refl, Nat.zero_le, true_and, and_true, Nat.reduceLeDiff, Nat.reduceAdd, Nat.add_zero, Nat.zero_add, List.length_cons, List.length_nil, List.set_cons_zero, List.set_cons_succ, Nat.reduceLT, s_fi, s_fl, s_fo, s_fa, s_f0, s_f1, s_set, s_ss, lg_cmp_ge, lg_cmp_le, lg_cmp_gt, lg_cmp_lt, lg_cmp_eq, s_brT, s_brF, s_10, w_Cm_hasGroups, r_Cm_hasGroups, l_Cm_hasGroups_0, l_Cm_hasGroups_34, l_Cm_hasGroups_36, l_Cm_hasGroups_76, l_Cm_hasGroups_89, l_Cm_hasGroups_152, l_Cm_hasGroups_154, l_Cm_hasGroups_163, l_Cm_hasGroups_175, l_Cm_hasGroups_176, f_1_9, f_1_19, kl_1_56, ml_1_34, w_Ta_holds, ml_1_26, w_Ta_u16, kb_12, kc_0, ml_1_42, w_Ta_u32, kb_16, kl_1_58, f_1_23, ty_1_3, kl_1_60, kc_4, kc_1, kl_1_62, hA', hT', nI_l (show p < 2 ^ 31 by omega)]
  refine q_c0 (Nat.le_refl _) (Nat.le_refl _) ?_
  refine c_Ta_holds (y := 16) hT (by omega) (by omega) (by omega) ?_
  simp -implicitDefEqProofs only [s_go, s_nil, s_cons, q_ins, s_op, s_i, s_j, s_a, s_v, s_li, s_lj, s_la, s_liO, s_ljO, s_laO, q_get, q_p1, q_p2, s_n2i, s_n2r, s_n2l, s_n2n, q_pad, q_ar, s_ob, s_obO, q_nth, s_ri, s_riO, s_rb, s_rbO, s_rzO, s_rl, s_rlO, s_rq, s_rqO, s_ry, s_ryO, s_dn, s_tl, s_tn, s_ap, s_an, s_ci, s_cr, s_ni, s_n0, s_n1, q_ags, q_cat, List.contains_nil, List.contains_cons, Nat.reduceBEq, Bool.or_false, Bool.false_or, Bool.true_or, Bool.false_eq_true, ↓reduceIte, Nat.le_refl, Nat.zero_le, true_and, and_true, Nat.reduceLeDiff, Nat.reduceAdd, Nat.add_zero, Nat.zero_add, List.length_cons, List.length_nil, List.set_cons_zero, List.set_cons_succ, Nat.reduceLT, s_fi, s_fl, s_fo, s_fa, s_f0, s_f1, s_set, s_ss, lg_cmp_ge, lg_cmp_le, lg_cmp_gt, lg_cmp_lt, lg_cmp_eq, s_brT, s_brF, s_10, w_Cm_hasGroups, r_Cm_hasGroups, l_Cm_hasGroups_0, l_Cm_hasGroups_34, l_Cm_hasGroups_36, l_Cm_hasGroups_76, l_Cm_hasGroups_89, l_Cm_hasGroups_152, l_Cm_hasGroups_154, l_Cm_hasGroups_163, l_Cm_hasGroups_175, l_Cm_hasGroups_176, f_1_9, f_1_19, kl_1_56, ml_1_34, w_Ta_holds, ml_1_26, w_Ta_u16, kb_12, kc_0, ml_1_42, w_Ta_u32, kb_16, kl_1_58, f_1_23, ty_1_3, kl_1_60, kc_4, kc_1, kl_1_62, hA', hT']
  by_cases c0 : p + 16 ≤ cl
  · rw [q_z_t c0]
    refine ⟨fun z => absurd z (by decide), fun _ => ?_⟩
    refine q_c0 (Nat.le_refl _) (Nat.le_refl _) ?_
    refine c_Ta_u16 hT hB hin (by omega) ?_
    simp -implicitDefEqProofs only [s_go, s_nil, s_cons, q_ins, s_op, s_i, s_j, s_a, s_v, s_li, s_lj, s_la, s_liO, s_ljO, s_laO, q_get, q_p1, q_p2, s_n2i, s_n2r, s_n2l, s_n2n, q_pad, q_ar, s_ob, s_obO, q_nth, s_ri, s_riO, s_rb, s_rbO, s_rzO, s_rl, s_rlO, s_rq, s_rqO, s_ry, s_ryO, s_dn, s_tl, s_tn, s_ap, s_an, s_ci, s_cr, s_ni, s_n0, s_n1, q_ags, q_cat, List.contains_nil, List.contains_cons, Nat.reduceBEq, Bool.or_false, Bool.false_or, Bool.true_or, Bool.false_eq_true, ↓reduceIte, Nat.le_refl, Nat.zero_le, true_and, and_true, Nat.reduceLeDiff, Nat.reduceAdd, Nat.add_zero, Nat.zero_add, List.length_cons, List.length_nil, List.set_cons_zero, List.set_cons_succ, Nat.reduceLT, s_fi, s_fl, s_fo, s_fa, s_f0, s_f1, s_set, s_ss, lg_cmp_ge, lg_cmp_le, lg_cmp_gt, lg_cmp_lt, lg_cmp_eq, s_brT, s_brF, s_10, w_Cm_hasGroups, r_Cm_hasGroups, l_Cm_hasGroups_0, l_Cm_hasGroups_34, l_Cm_hasGroups_36, l_Cm_hasGroups_76, l_Cm_hasGroups_89, l_Cm_hasGroups_152, l_Cm_hasGroups_154, l_Cm_hasGroups_163, l_Cm_hasGroups_175, l_Cm_hasGroups_176, f_1_9, f_1_19, kl_1_56, ml_1_34, w_Ta_holds, ml_1_26, w_Ta_u16, kb_12, kc_0, ml_1_42, w_Ta_u32, kb_16, kl_1_58, f_1_23, ty_1_3, kl_1_60, kc_4, kc_1, kl_1_62, hA', hT']
    rw [show (12 : Int32) = nI 12 from rfl, nI_eq (by omega) (by omega)]
    refine ⟨fun c1 => ?_, fun c1 => q0' (fun z => c1 z.2.1)⟩
    rw [nI_add]
    refine q_c0 (Nat.le_refl _) (Nat.le_refl _) ?_
    refine c_Ta_u32 hT hB hin (by omega) ?_
    simp -implicitDefEqProofs only [s_go, s_nil, s_cons, q_ins, s_op, s_i, s_j, s_a, s_v, s_li, s_lj, s_la, s_liO, s_ljO, s_laO, q_get, q_p1, q_p2, s_n2i, s_n2r, s_n2l, s_n2n, q_pad, q_ar, s_ob, s_obO, q_nth, s_ri, s_riO, s_rb, s_rbO, s_rzO, s_rl, s_rlO, s_rq, s_rqO, s_ry, s_ryO, s_dn, s_tl, s_tn, s_ap, s_an, s_ci, s_cr, s_ni, s_n0, s_n1, q_ags, q_cat, List.contains_nil, List.contains_cons, Nat.reduceBEq, Bool.or_false, Bool.false_or, Bool.true_or, Bool.false_eq_true, ↓reduceIte, Nat.le_refl, Nat.zero_le, true_and, and_true, Nat.reduceLeDiff, Nat.reduceAdd, Nat.add_zero, Nat.zero_add, List.length_cons, List.length_nil, List.set_cons_zero, List.set_cons_succ, Nat.reduceLT, s_fi, s_fl, s_fo, s_fa, s_f0, s_f1, s_set, s_ss, lg_cmp_ge, lg_cmp_le, lg_cmp_gt, lg_cmp_lt, lg_cmp_eq, s_brT, s_brF, s_10, w_Cm_hasGroups, r_Cm_hasGroups, l_Cm_hasGroups_0, l_Cm_hasGroups_34, l_Cm_hasGroups_36, l_Cm_hasGroups_76, l_Cm_hasGroups_89, l_Cm_hasGroups_152, l_Cm_hasGroups_154, l_Cm_hasGroups_163, l_Cm_hasGroups_175, l_Cm_hasGroups_176, f_1_9, f_1_19, kl_1_56, ml_1_34, w_Ta_holds, ml_1_26, w_Ta_u16, kb_12, kc_0, ml_1_42, w_Ta_u32, kb_16, kl_1_58, f_1_23, ty_1_3, kl_1_60, kc_4, kc_1, kl_1_62, hA', hT']
    rw [show nI p + 16 = nI (p + 16) from nI_add p 16, nI_l (by omega), show (12 : Int64) = lN 12 from rfl, lN_mul]
    refine q_c0 (Nat.le_refl _) (Nat.le_refl _) ?_
    refine c_Ta_holds hT (by omega) (by omega) (by omega) ?_
    simp -implicitDefEqProofs only [s_go, s_nil, s_cons, q_ins, s_op, s_i, s_j, s_a, s_v, s_li, s_lj, s_la, s_liO, s_ljO, s_laO, q_get, q_p1, q_p2, s_n2i, s_n2r, s_n2l, s_n2n, q_pad, q_ar, s_ob, s_obO, q_nth, s_ri, s_riO, s_rb, s_rbO, s_rzO, s_rl, s_rlO, s_rq, s_rqO, s_ry, s_ryO, s_dn, s_tl, s_tn, s_ap, s_an, s_ci, s_cr, s_ni, s_n0, s_n1, q_ags, q_cat, List.contains_nil, List.contains_cons, Nat.reduceBEq, Bool.or_false, Bool.false_or, Bool.true_or, Bool.false_eq_true, ↓reduceIte, Nat.le_refl, Nat.zero_le, true_and, and_true, Nat.reduceLeDiff, Nat.reduceAdd, Nat.add_zero, Nat.zero_add, List.length_cons, List.length_nil, List.set_cons_zero, List.set_cons_succ, Nat.reduceLT, s_fi, s_fl, s_fo, s_fa, s_f0, s_f1, s_set, s_ss, lg_cmp_ge, lg_cmp_le, lg_cmp_gt, lg_cmp_lt, lg_cmp_eq, s_brT, s_brF, s_10, w_Cm_hasGroups, r_Cm_hasGroups, l_Cm_hasGroups_0, l_Cm_hasGroups_34, l_Cm_hasGroups_36, l_Cm_hasGroups_76, l_Cm_hasGroups_89, l_Cm_hasGroups_152, l_Cm_hasGroups_154, l_Cm_hasGroups_163, l_Cm_hasGroups_175, l_Cm_hasGroups_176, f_1_9, f_1_19, kl_1_56, ml_1_34, w_Ta_holds, ml_1_26, w_Ta_u16, kb_12, kc_0, ml_1_42, w_Ta_u32, kb_16, kl_1_58, f_1_23, ty_1_3, kl_1_60, kc_4, kc_1, kl_1_62, hA', hT', lN_i]
    by_cases c2 : p + 16 + 12 * U32 F cs cl (p + 12) ≤ cl
    · rw [q_z_t c2]
      refine ⟨fun z => absurd z (by decide), fun _ => ?_⟩
      have fr : q_1 h (q_set h a (e_Cm tc og (nI p) (nI (U32 F cs cl (p + 12))))) a := fun b hb => s_ne _ _ hb
      exact z_Cm_hasGroups (s_set _ _ _) ((fr tc hta).trans hT) (hB.mv (fr f hfa) (fr row hra)) hin c0 c1 c2 q1 (fun z => q0 z _) (U32 F cs cl (p + 12)) 0 (by omega) (fun j hj => absurd hj (by omega))
    · rw [q_z_f c2]
      exact ⟨fun _ => q0' (fun z => c2 z.2.2.1), fun z => absurd rfl z⟩
  · rw [q_z_f c0]
    exact ⟨fun _ => q0' (fun z => c0 z.1), fun z => absurd rfl z⟩
end
section
/-! CharacterMap: segments; isFound -/
/-- segments of the map at p, S of them: last and first of the k-th -/
def s_la' (F : Nat → Nat) (cs cl p k : Nat) : Nat := U16 F cs cl (p + 14 + 2 * k)
def s_fi' (F : Nat → Nat) (cs cl p S k : Nat) : Nat := U16 F cs cl (p + 16 + 2 * S + 2 * k)
def s_ok (F : Nat → Nat) (cs cl p S k : Nat) : Prop := (0 < k → s_la' F cs cl p (k - 1) < s_la' F cs cl p k) ∧ s_fi' F cs cl p S k ≤ s_la' F cs cl p k
def sg_D (F : Nat → Nat) (cs cl p : Nat) : Nat := U16 F cs cl (p + 6)
def SG_ok (F : Nat → Nat) (cs cl p : Nat) : Prop := p + 16 ≤ cl ∧ U16 F cs cl p = 4 ∧ 2 ≤ sg_D F cs cl p ∧ sg_D F cs cl p % 2 = 0 ∧ p + 16 + 4 * sg_D F cs cl p ≤ cl ∧ (∀ k, k < sg_D F cs cl p / 2 → s_ok F cs cl p (sg_D F cs cl p / 2) k) ∧ s_la' F cs cl p (sg_D F cs cl p / 2 - 1) = 65535
def q_sb (F : Nat → Nat) (cs cl p k : Nat) : Int32 := if k = 0 then -1 else nI (s_la' F cs cl p (k - 1))
theorem q_im1 {a : Nat} (h : a < 2 ^ 31) : ¬ nI a ≤ -1 := by
  rw [Int32.le_iff_toInt_le, nI_toInt h]
  show ¬ (a : Int) ≤ (-1 : Int32).toInt
  rw [show (-1 : Int32).toInt = -1 from rfl]
  omega
theorem q_sb_le {F : Nat → Nat} (hF : ∀ j, F j < 256) {cs cl p k : Nat} : (nI (s_la' F cs cl p k) ≤ q_sb F cs cl p k) ↔ ¬ (0 < k → s_la' F cs cl p (k - 1) < s_la' F cs cl p k) := by
  have b1 := U16_lt hF cs cl (p + 14 + 2 * k)
  have b2 := U16_lt hF cs cl (p + 14 + 2 * (k - 1))
  unfold q_sb
  by_cases hk : k = 0
  · subst hk
    rw [if_pos rfl]
    constructor
    · intro h; exact absurd h (q_im1 (by unfold s_la'; omega))
    · intro h; exact absurd (fun z => absurd z (by omega)) h
  · rw [if_neg hk, nI_leI (by unfold s_la'; omega) (by unfold s_la'; omega)]
    constructor
    · intro h z; have := z (by omega); omega
    · intro h
      rcases Nat.lt_or_ge (s_la' F cs cl p (k - 1)) (s_la' F cs cl p k) with q | q
      · exact absurd (fun _ => q) h
      · exact q
set_option maxRecDepth 100000 in
set_option maxHeartbeats 4000000 in
theorem z_Cm_hasSegments {G : q_G} {l : Launch} {d a tc f row m n sz cs cl p : Nat} {og x1 : Int32} {g : Nat → Int32} {F : Nat → Nat} {h : q_H} {Q : q_P} (hA : h a = some (e_Cm tc og (nI p) (nI (sg_D F cs cl p / 2)))) (hT : q_Ta h tc f cs cl) (hB : q_By h f row m g sz F) (hin : cs + cl ≤ sz) (hp : p ≤ 16384)
    (q1 : (∀ k, k < sg_D F cs cl p / 2 → s_ok F cs cl p (sg_D F cs cl p / 2) k) → s_la' F cs cl p (sg_D F cs cl p / 2 - 1) = 65535 → Q (some (.int 1)) h n) (q0 : ¬ ((∀ k, k < sg_D F cs cl p / 2 → s_ok F cs cl p (sg_D F cs cl p / 2) k) ∧ s_la' F cs cl p (sg_D F cs cl p / 2 - 1) = 65535) → Q (some (.int 0)) h n) (hS : 0 < sg_D F cs cl p / 2) :
    ∀ (r k : Nat), k + r = sg_D F cs cl p / 2 → (∀ j, j < k → s_ok F cs cl p (sg_D F cs cl p / 2) j) → q_Z G l M_Cm_hasSegments (d + 3) 0 0 Q 96 [some (.ref a), some (.int x1), some (.int (q_sb F cs cl p k)), some (.int (nI k)), none] [] h n 0 0 := by
  have hF := hB.2.2.2.2.2.2
  have bD : sg_D F cs cl p < 65536 := U16_lt hF cs cl (p + 6)
  have hA' := hA
  unfold e_Cm at hA'
  intro r
  induction r with
  | zero =>
    intro k hk hall
    have hk : k = sg_D F cs cl p / 2 := by omega
    have b2 := U16_lt hF cs cl (p + 14 + 2 * (k - 1))
    refine q_at o_Cm_hasSegments [96] 20 l_Cm_hasSegments_96 ?_
    simp -implicitDefEqProofs only [s_go, s_nil, s_cons, q_ins, s_op, s_i, s_j, s_a, s_v, s_li, s_lj, s_la, s_liO, s_ljO, s_laO, q_get, q_p1, q_p2, s_n2i, s_n2r, s_n2l, s_n2n, q_pad, q_ar, s_ob, s_obO, q_nth, s_ri, s_riO, s_rb, s_rbO, s_rzO, s_rl, s_rlO, s_rq, s_rqO, s_ry, s_ryO, s_dn, s_tl, s_tn, s_ap, s_an, s_ci, s_cr, s_ni, s_n0, s_n1, q_ags, q_cat, List.contains_nil, List.contains_cons, Nat.reduceBEq, Bool.or_false, Bool.false_or, Bool.true_or, Bool.false_eq_true, ↓reduceIte, Nat.le_refl, Nat.zero_le, true_and, and_true, Nat.reduceLeDiff, Nat.reduceAdd, Nat.add_zero, Nat.zero_add, List.length_cons, List.length_nil, List.set_cons_zero, List.set_cons_succ, Nat.reduceLT, s_fi, s_fl, s_fo, s_fa, s_f0, s_f1, s_set, s_ss, lg_cmp_ge, lg_cmp_le, lg_cmp_gt, lg_cmp_lt, lg_cmp_eq, s_brT, s_brF, s_10, w_Cm_hasSegments, r_Cm_hasSegments, l_Cm_hasSegments_0, l_Cm_hasSegments_33, l_Cm_hasSegments_35, l_Cm_hasSegments_83, l_Cm_hasSegments_85, l_Cm_hasSegments_96, l_Cm_hasSegments_127, l_Cm_hasSegments_129, l_Cm_hasSegments_138, l_Cm_hasSegments_148, l_Cm_hasSegments_149, f_1_9, f_1_19, kl_1_56, ml_1_34, w_Ta_holds, ml_1_26, w_Ta_u16, kc_4, kc_0, kb_6, kc_2, kb_16, f_1_23, ty_1_3, kc_m1, ml_1_64, w_Cm_lastOf, ml_1_67, w_Cm_firstOf, kc_1, ki_1_70, hA']
    refine ⟨fun _ => ?_, fun c => absurd (nI_le (by omega) (by omega)) c⟩
    unfold q_sb
    rw [if_neg (by omega), show (65535 : Int32) = nI 65535 from rfl, nI_eq (by unfold s_la'; omega) (by omega)]
    rw [hk]
    exact ⟨fun c => q1 (by rw [← hk]; exact (by rw [hk]; rw [hk] at hall; exact hall)) c, fun c => q0 (fun z => c z.2)⟩
  | succ r ih =>
    intro k hk hall
    have b1 := U16_lt hF cs cl (p + 14 + 2 * k)
    have b2 := U16_lt hF cs cl (p + 16 + 2 * (sg_D F cs cl p / 2) + 2 * k)
    refine q_at o_Cm_hasSegments [96] 20 l_Cm_hasSegments_96 ?_
    simp -implicitDefEqProofs only [s_go, s_nil, s_cons, q_ins, s_op, s_i, s_j, s_a, s_v, s_li, s_lj, s_la, s_liO, s_ljO, s_laO, q_get, q_p1, q_p2, s_n2i, s_n2r, s_n2l, s_n2n, q_pad, q_ar, s_ob, s_obO, q_nth, s_ri, s_riO, s_rb, s_rbO, s_rzO, s_rl, s_rlO, s_rq, s_rqO, s_ry, s_ryO, s_dn, s_tl, s_tn, s_ap, s_an, s_ci, s_cr, s_ni, s_n0, s_n1, q_ags, q_cat, List.contains_nil, List.contains_cons, Nat.reduceBEq, Bool.or_false, Bool.false_or, Bool.true_or, Bool.false_eq_true, ↓reduceIte, Nat.le_refl, Nat.zero_le, true_and, and_true, Nat.reduceLeDiff, Nat.reduceAdd, Nat.add_zero, Nat.zero_add, List.length_cons, List.length_nil, List.set_cons_zero, List.set_cons_succ, Nat.reduceLT, s_fi, s_fl, s_fo, s_fa, s_f0, s_f1, s_set, s_ss, lg_cmp_ge, lg_cmp_le, lg_cmp_gt, lg_cmp_lt, lg_cmp_eq, s_brT, s_brF, s_10, w_Cm_hasSegments, r_Cm_hasSegments, l_Cm_hasSegments_0, l_Cm_hasSegments_33, l_Cm_hasSegments_35, l_Cm_hasSegments_83, l_Cm_hasSegments_85, l_Cm_hasSegments_96, l_Cm_hasSegments_127, l_Cm_hasSegments_129, l_Cm_hasSegments_138, l_Cm_hasSegments_148, l_Cm_hasSegments_149, f_1_9, f_1_19, kl_1_56, ml_1_34, w_Ta_holds, ml_1_26, w_Ta_u16, kc_4, kc_0, kb_6, kc_2, kb_16, f_1_23, ty_1_3, kc_m1, ml_1_64, w_Cm_lastOf, ml_1_67, w_Cm_firstOf, kc_1, ki_1_70, hA']
    refine ⟨fun c => absurd ((nI_leI (by omega) (by omega)).mp c) (by omega), fun _ => ?_⟩
    refine q_c0 (Nat.le_refl _) (Nat.le_refl _) ?_
    refine c_Cm_lastOf hA hT hB hin hp (by omega) ?_
    simp -implicitDefEqProofs only [s_go, s_nil, s_cons, q_ins, s_op, s_i, s_j, s_a, s_v, s_li, s_lj, s_la, s_liO, s_ljO, s_laO, q_get, q_p1, q_p2, s_n2i, s_n2r, s_n2l, s_n2n, q_pad, q_ar, s_ob, s_obO, q_nth, s_ri, s_riO, s_rb, s_rbO, s_rzO, s_rl, s_rlO, s_rq, s_rqO, s_ry, s_ryO, s_dn, s_tl, s_tn, s_ap, s_an, s_ci, s_cr, s_ni, s_n0, s_n1, q_ags, q_cat, List.contains_nil, List.contains_cons, Nat.reduceBEq, Bool.or_false, Bool.false_or, Bool.true_or, Bool.false_eq_true, ↓reduceIte, Nat.le_refl, Nat.zero_le, true_and, and_true, Nat.reduceLeDiff, Nat.reduceAdd, Nat.add_zero, Nat.zero_add, List.length_cons, List.length_nil, List.set_cons_zero, List.set_cons_succ, Nat.reduceLT, s_fi, s_fl, s_fo, s_fa, s_f0, s_f1, s_set, s_ss, lg_cmp_ge, lg_cmp_le, lg_cmp_gt, lg_cmp_lt, lg_cmp_eq, s_brT, s_brF, s_10, w_Cm_hasSegments, r_Cm_hasSegments, l_Cm_hasSegments_0, l_Cm_hasSegments_33, l_Cm_hasSegments_35, l_Cm_hasSegments_83, l_Cm_hasSegments_85, l_Cm_hasSegments_96, l_Cm_hasSegments_127, l_Cm_hasSegments_129, l_Cm_hasSegments_138, l_Cm_hasSegments_148, l_Cm_hasSegments_149, f_1_9, f_1_19, kl_1_56, ml_1_34, w_Ta_holds, ml_1_26, w_Ta_u16, kc_4, kc_0, kb_6, kc_2, kb_16, f_1_23, ty_1_3, kc_m1, ml_1_64, w_Cm_lastOf, ml_1_67, w_Cm_firstOf, kc_1, ki_1_70, hA']
    rw [show nI (U16 F cs cl (p + 14 + 2 * k)) = nI (s_la' F cs cl p k) from rfl, q_sb_le hF]
    refine ⟨fun c => q0 (fun z => c (z.1 k (by omega)).1), fun c => ?_⟩
    refine q_c0 (Nat.le_refl _) (Nat.le_refl _) ?_
    refine c_Cm_firstOf hA hT hB hin hp (by omega) (by omega) ?_
    simp -implicitDefEqProofs only [s_go, s_nil, s_cons, q_ins, s_op, s_i, s_j, s_a, s_v, s_li, s_lj, s_la, s_liO, s_ljO, s_laO, q_get, q_p1, q_p2, s_n2i, s_n2r, s_n2l, s_n2n, q_pad, q_ar, s_ob, s_obO, q_nth, s_ri, s_riO, s_rb, s_rbO, s_rzO, s_rl, s_rlO, s_rq, s_rqO, s_ry, s_ryO, s_dn, s_tl, s_tn, s_ap, s_an, s_ci, s_cr, s_ni, s_n0, s_n1, q_ags, q_cat, List.contains_nil, List.contains_cons, Nat.reduceBEq, Bool.or_false, Bool.false_or, Bool.true_or, Bool.false_eq_true, ↓reduceIte, Nat.le_refl, Nat.zero_le, true_and, and_true, Nat.reduceLeDiff, Nat.reduceAdd, Nat.add_zero, Nat.zero_add, List.length_cons, List.length_nil, List.set_cons_zero, List.set_cons_succ, Nat.reduceLT, s_fi, s_fl, s_fo, s_fa, s_f0, s_f1, s_set, s_ss, lg_cmp_ge, lg_cmp_le, lg_cmp_gt, lg_cmp_lt, lg_cmp_eq, s_brT, s_brF, s_10, w_Cm_hasSegments, r_Cm_hasSegments, l_Cm_hasSegments_0, l_Cm_hasSegments_33, l_Cm_hasSegments_35, l_Cm_hasSegments_83, l_Cm_hasSegments_85, l_Cm_hasSegments_96, l_Cm_hasSegments_127, l_Cm_hasSegments_129, l_Cm_hasSegments_138, l_Cm_hasSegments_148, l_Cm_hasSegments_149, f_1_9, f_1_19, kl_1_56, ml_1_34, w_Ta_holds, ml_1_26, w_Ta_u16, kc_4, kc_0, kb_6, kc_2, kb_16, f_1_23, ty_1_3, kc_m1, ml_1_64, w_Cm_lastOf, ml_1_67, w_Cm_firstOf, kc_1, ki_1_70, hA']
    rw [nI_leI (by omega) (by unfold s_la'; omega)]
    refine ⟨fun c1 => ?_, fun c1 => q0 (fun z => c1 (z.1 k (by omega)).2)⟩
    refine q_wk (ih (k + 1) (by omega) (fun j hj => ?_)) ⟨rfl, rfl, ?_, by rw [nI_1], trivial⟩
    · rcases Nat.lt_or_ge j k with z | z
      · exact hall j z
      · have : j = k := by omega
        subst this
        exact ⟨Classical.not_not.mp c, c1⟩
    · unfold q_sb
      rw [if_neg (by omega)]
      rfl
theorem q_rem2 {a : Nat} (h : a < 65536) : nI a - nI a / 2 * 2 = nI (a % 2) := pk_rem (d := 2) (by omega) (by omega) (by omega)
theorem q_div2 {a : Nat} (h : a < 65536) : nI a / 2 = nI (a / 2) := pk_div (d := 2) (by omega) (by omega) (by omega)
set_option maxRecDepth 100000 in
set_option maxHeartbeats 4000000 in
theorem c_Cm_hasSegments {G : q_G} {l : Launch} {d a tc f row m n sz cs cl p : Nat} {og mn : Int32} {g : Nat → Int32} {F : Nat → Nat} {h : q_H} {Q : q_P} (hA : h a = some (e_Cm tc og (nI p) mn)) (hT : q_Ta h tc f cs cl) (hB : q_By h f row m g sz F) (hin : cs + cl ≤ sz) (hp : p ≤ cl)
    (q1 : SG_ok F cs cl p → Q (some (.int 1)) (q_set h a (e_Cm tc og (nI p) (nI (sg_D F cs cl p / 2)))) n) (q0 : ¬ SG_ok F cs cl p → ∀ mn, Q (some (.int 0)) (q_set h a (e_Cm tc og (nI p) mn)) n) : q_Call G l M_Cm_hasSegments (d + 3) 0 0 [.ref a] h n Q := by
  have hF := hB.2.2.2.2.2.2
  have hs : sz ≤ 16384 := Nat.le_trans hB.2.2.1 hB.2.2.2.1
  have hA' := hA
  unfold e_Cm at hA'
  have hT' : h tc = some (.inr (6, [.ref f, .int (nI cs), .int (nI cl)])) := hT
  have q0' : ¬ SG_ok F cs cl p → Q (some (.int 0)) h n := fun z => by
    have := q0 z mn
    rw [s_id h hA] at this
    exact this
  have bu := U16_lt hF cs cl p
  have bD : sg_D F cs cl p < 65536 := U16_lt hF cs cl (p + 6)
  have hta : tc ≠ a := fun q => by rw [q, hA'] at hT'; cases hT'
  have hfa : f ≠ a := fun q => by have := hB.1; rw [q, hA'] at this; cases this
  have hra := hB.ne hA'
  refine q_in u_Cm_hasSegments (by rw [L_Cm_hasSegments]; exact Nat.le_of_ble_eq_true rfl) ?_
  rw [L_Cm_hasSegments]
  refine q_at o_Cm_hasSegments [96] 20 l_Cm_hasSegments_0 ?_
  simp -implicitDefEqProofs only [s_go, s_nil, s_cons, q_ins, s_op, s_i, s_j, s_a, s_v, s_li, s_lj, s_la, s_liO, s_ljO, s_laO, q_get, q_p1, q_p2, s_n2i, s_n2r, s_n2l, s_n2n, q_pad, q_ar, s_ob, s_obO, q_nth, s_ri, s_riO, s_rb, s_rbO, s_rzO, s_rl, s_rlO, s_rq, s_rqO, s_ry, s_ryO, s_dn, s_tl, s_tn, s_ap, s_an, s_ci, s_cr, s_ni, s_n0, s_n1, q_ags, q_cat, List.contains_nil, List.contains_cons, Nat.reduceBEq, Bool.or_false, Bool.false_or, Bool.true_or, Bool.false_eq_true, ↓reduceIte, Nat.le_refl, Nat.zero_le, true_and, and_true, Nat.reduceLeDiff, Nat.reduceAdd, Nat.add_zero, Nat.zero_add, List.length_cons, List.length_nil, List.set_cons_zero, List.set_cons_succ, Nat.reduceLT, s_fi, s_fl, s_fo, s_fa, s_f0, s_f1, s_set, s_ss, lg_cmp_ge, lg_cmp_le, lg_cmp_gt, lg_cmp_lt, lg_cmp_eq, s_brT, s_brF, s_10, w_Cm_hasSegments, r_Cm_hasSegments, l_Cm_hasSegments_0, l_Cm_hasSegments_33, l_Cm_hasSegments_35, l_Cm_hasSegments_83, l_Cm_hasSegments_85, l_Cm_hasSegments_96, l_Cm_hasSegments_127, l_Cm_hasSegments_129, l_Cm_hasSegments_138, l_Cm_hasSegments_148, l_Cm_hasSegments_149, f_1_9, f_1_19, kl_1_56, ml_1_34, w_Ta_holds, ml_1_26, w_Ta_u16, kc_4, kc_0, kb_6, kc_2, kb_16, f_1_23, ty_1_3, kc_m1, ml_1_64, w_Cm_lastOf, ml_1_67, w_Cm_firstOf, kc_1, ki_1_70, hA', hT', nI_l (show p < 2 ^ 31 by omega)]
  refine q_c0 (Nat.le_refl _) (Nat.le_refl _) ?_
  refine c_Ta_holds (y := 16) hT (by omega) (by omega) (by omega) ?_
  simp -implicitDefEqProofs only [s_go, s_nil, s_cons, q_ins, s_op, s_i, s_j, s_a, s_v, s_li, s_lj, s_la, s_liO, s_ljO, s_laO, q_get, q_p1, q_p2, s_n2i, s_n2r, s_n2l, s_n2n, q_pad, q_ar, s_ob, s_obO, q_nth, s_ri, s_riO, s_rb, s_rbO, s_rzO, s_rl, s_rlO, s_rq, s_rqO, s_ry, s_ryO, s_dn, s_tl, s_tn, s_ap, s_an, s_ci, s_cr, s_ni, s_n0, s_n1, q_ags, q_cat, List.contains_nil, List.contains_cons, Nat.reduceBEq, Bool.or_false, Bool.false_or, Bool.true_or, Bool.false_eq_true, ↓reduceIte, Nat.le_refl, Nat.zero_le, true_and, and_true, Nat.reduceLeDiff, Nat.reduceAdd, Nat.add_zero, Nat.zero_add, List.length_cons, List.length_nil, List.set_cons_zero, List.set_cons_succ, Nat.reduceLT, s_fi, s_fl, s_fo, s_fa, s_f0, s_f1, s_set, s_ss, lg_cmp_ge, lg_cmp_le, lg_cmp_gt, lg_cmp_lt, lg_cmp_eq, s_brT, s_brF, s_10, w_Cm_hasSegments, r_Cm_hasSegments, l_Cm_hasSegments_0, l_Cm_hasSegments_33, l_Cm_hasSegments_35, l_Cm_hasSegments_83, l_Cm_hasSegments_85, l_Cm_hasSegments_96, l_Cm_hasSegments_127, l_Cm_hasSegments_129, l_Cm_hasSegments_138, l_Cm_hasSegments_148, l_Cm_hasSegments_149, f_1_9, f_1_19, kl_1_56, ml_1_34, w_Ta_holds, ml_1_26, w_Ta_u16, kc_4, kc_0, kb_6, kc_2, kb_16, f_1_23, ty_1_3, kc_m1, ml_1_64, w_Cm_lastOf, ml_1_67, w_Cm_firstOf, kc_1, ki_1_70, hA', hT']
  by_cases c0 : p + 16 ≤ cl
  · rw [q_z_t c0]
    refine ⟨fun z => absurd z (by decide), fun _ => ?_⟩
    refine q_c0 (Nat.le_refl _) (Nat.le_refl _) ?_
    refine c_Ta_u16 hT hB hin (by omega) ?_
    simp -implicitDefEqProofs only [s_go, s_nil, s_cons, q_ins, s_op, s_i, s_j, s_a, s_v, s_li, s_lj, s_la, s_liO, s_ljO, s_laO, q_get, q_p1, q_p2, s_n2i, s_n2r, s_n2l, s_n2n, q_pad, q_ar, s_ob, s_obO, q_nth, s_ri, s_riO, s_rb, s_rbO, s_rzO, s_rl, s_rlO, s_rq, s_rqO, s_ry, s_ryO, s_dn, s_tl, s_tn, s_ap, s_an, s_ci, s_cr, s_ni, s_n0, s_n1, q_ags, q_cat, List.contains_nil, List.contains_cons, Nat.reduceBEq, Bool.or_false, Bool.false_or, Bool.true_or, Bool.false_eq_true, ↓reduceIte, Nat.le_refl, Nat.zero_le, true_and, and_true, Nat.reduceLeDiff, Nat.reduceAdd, Nat.add_zero, Nat.zero_add, List.length_cons, List.length_nil, List.set_cons_zero, List.set_cons_succ, Nat.reduceLT, s_fi, s_fl, s_fo, s_fa, s_f0, s_f1, s_set, s_ss, lg_cmp_ge, lg_cmp_le, lg_cmp_gt, lg_cmp_lt, lg_cmp_eq, s_brT, s_brF, s_10, w_Cm_hasSegments, r_Cm_hasSegments, l_Cm_hasSegments_0, l_Cm_hasSegments_33, l_Cm_hasSegments_35, l_Cm_hasSegments_83, l_Cm_hasSegments_85, l_Cm_hasSegments_96, l_Cm_hasSegments_127, l_Cm_hasSegments_129, l_Cm_hasSegments_138, l_Cm_hasSegments_148, l_Cm_hasSegments_149, f_1_9, f_1_19, kl_1_56, ml_1_34, w_Ta_holds, ml_1_26, w_Ta_u16, kc_4, kc_0, kb_6, kc_2, kb_16, f_1_23, ty_1_3, kc_m1, ml_1_64, w_Cm_lastOf, ml_1_67, w_Cm_firstOf, kc_1, ki_1_70, hA', hT']
    rw [show (4 : Int32) = nI 4 from rfl, nI_eq (by omega) (by omega)]
    refine ⟨fun c1 => ?_, fun c1 => q0' (fun z => c1 z.2.1)⟩
    rw [show nI p + 6 = nI (p + 6) from nI_add p 6]
    refine q_c0 (Nat.le_refl _) (Nat.le_refl _) ?_
    refine c_Ta_u16 hT hB hin (by omega) ?_
    simp -implicitDefEqProofs only [s_go, s_nil, s_cons, q_ins, s_op, s_i, s_j, s_a, s_v, s_li, s_lj, s_la, s_liO, s_ljO, s_laO, q_get, q_p1, q_p2, s_n2i, s_n2r, s_n2l, s_n2n, q_pad, q_ar, s_ob, s_obO, q_nth, s_ri, s_riO, s_rb, s_rbO, s_rzO, s_rl, s_rlO, s_rq, s_rqO, s_ry, s_ryO, s_dn, s_tl, s_tn, s_ap, s_an, s_ci, s_cr, s_ni, s_n0, s_n1, q_ags, q_cat, List.contains_nil, List.contains_cons, Nat.reduceBEq, Bool.or_false, Bool.false_or, Bool.true_or, Bool.false_eq_true, ↓reduceIte, Nat.le_refl, Nat.zero_le, true_and, and_true, Nat.reduceLeDiff, Nat.reduceAdd, Nat.add_zero, Nat.zero_add, List.length_cons, List.length_nil, List.set_cons_zero, List.set_cons_succ, Nat.reduceLT, s_fi, s_fl, s_fo, s_fa, s_f0, s_f1, s_set, s_ss, lg_cmp_ge, lg_cmp_le, lg_cmp_gt, lg_cmp_lt, lg_cmp_eq, s_brT, s_brF, s_10, w_Cm_hasSegments, r_Cm_hasSegments, l_Cm_hasSegments_0, l_Cm_hasSegments_33, l_Cm_hasSegments_35, l_Cm_hasSegments_83, l_Cm_hasSegments_85, l_Cm_hasSegments_96, l_Cm_hasSegments_127, l_Cm_hasSegments_129, l_Cm_hasSegments_138, l_Cm_hasSegments_148, l_Cm_hasSegments_149, f_1_9, f_1_19, kl_1_56, ml_1_34, w_Ta_holds, ml_1_26, w_Ta_u16, kc_4, kc_0, kb_6, kc_2, kb_16, f_1_23, ty_1_3, kc_m1, ml_1_64, w_Cm_lastOf, ml_1_67, w_Cm_firstOf, kc_1, ki_1_70, hA', hT', nI_l (show p < 2 ^ 31 by omega)]
    rw [show nI (U16 F cs cl (p + 6)) = nI (sg_D F cs cl p) from rfl, q_rem2 bD, show (nI (sg_D F cs cl p) < (2 : Int32)) = (sg_D F cs cl p < 2) from propext (nI_ltI (b := 2) (by omega) (by omega))]
    refine ⟨fun c2 => q0' (fun z => absurd z.2.2.1 (by omega)), fun c2 => ⟨by decide, ?_⟩⟩
    rw [show (nI (sg_D F cs cl p % 2) = (0 : Int32)) = (sg_D F cs cl p % 2 = 0) from propext (nI_eq (b := 0) (by omega) (by omega))]
    refine ⟨fun c3 => ?_, fun c3 => q0' (fun z => c3 z.2.2.2.1)⟩
    rw [show (4 : Int32) * nI (sg_D F cs cl p) = nI (4 * sg_D F cs cl p) from pk_mul 4 _, show (16 : Int32) + nI (4 * sg_D F cs cl p) = nI (16 + 4 * sg_D F cs cl p) from nI_add 16 _, nI_l (by omega)]
    refine q_c0 (Nat.le_refl _) (Nat.le_refl _) ?_
    refine c_Ta_holds hT (by omega) (by omega) (by omega) ?_
    simp -implicitDefEqProofs only [s_go, s_nil, s_cons, q_ins, s_op, s_i, s_j, s_a, s_v, s_li, s_lj, s_la, s_liO, s_ljO, s_laO, q_get, q_p1, q_p2, s_n2i, s_n2r, s_n2l, s_n2n, q_pad, q_ar, s_ob, s_obO, q_nth, s_ri, s_riO, s_rb, s_rbO, s_rzO, s_rl, s_rlO, s_rq, s_rqO, s_ry, s_ryO, s_dn, s_tl, s_tn, s_ap, s_an, s_ci, s_cr, s_ni, s_n0, s_n1, q_ags, q_cat, List.contains_nil, List.contains_cons, Nat.reduceBEq, Bool.or_false, Bool.false_or, Bool.true_or, Bool.false_eq_true, ↓reduceIte, Nat.le_refl, Nat.zero_le, true_and, and_true, Nat.reduceLeDiff, Nat.reduceAdd, Nat.add_zero, Nat.zero_add, List.length_cons, List.length_nil, List.set_cons_zero, List.set_cons_succ, Nat.reduceLT, s_fi, s_fl, s_fo, s_fa, s_f0, s_f1, s_set, s_ss, lg_cmp_ge, lg_cmp_le, lg_cmp_gt, lg_cmp_lt, lg_cmp_eq, s_brT, s_brF, s_10, w_Cm_hasSegments, r_Cm_hasSegments, l_Cm_hasSegments_0, l_Cm_hasSegments_33, l_Cm_hasSegments_35, l_Cm_hasSegments_83, l_Cm_hasSegments_85, l_Cm_hasSegments_96, l_Cm_hasSegments_127, l_Cm_hasSegments_129, l_Cm_hasSegments_138, l_Cm_hasSegments_148, l_Cm_hasSegments_149, f_1_9, f_1_19, kl_1_56, ml_1_34, w_Ta_holds, ml_1_26, w_Ta_u16, kc_4, kc_0, kb_6, kc_2, kb_16, f_1_23, ty_1_3, kc_m1, ml_1_64, w_Cm_lastOf, ml_1_67, w_Cm_firstOf, kc_1, ki_1_70, hA', hT', q_div2 bD]
    by_cases c4 : p + (16 + 4 * sg_D F cs cl p) ≤ cl
    · rw [q_z_t c4]
      refine ⟨fun z => absurd z (by decide), fun _ => ⟨by decide, ?_⟩⟩
      have fr : q_1 h (q_set h a (e_Cm tc og (nI p) (nI (sg_D F cs cl p / 2)))) a := fun b hb => s_ne _ _ hb
      exact z_Cm_hasSegments (s_set _ _ _) ((fr tc hta).trans hT) (hB.mv (fr f hfa) (fr row hra)) hin (by omega) (fun y1 y2 => q1 ⟨c0, c1, by omega, c3, by omega, y1, y2⟩) (fun z => q0 (fun y => z ⟨y.2.2.2.2.2.1, y.2.2.2.2.2.2⟩) _) (by omega) (sg_D F cs cl p / 2) 0 (by omega) (fun j hj => absurd hj (by omega))
    · rw [q_z_f c4]
      exact ⟨fun _ => q0' (fun z => c4 (by have := z.2.2.2.2.1; omega)), fun z => absurd rfl z⟩
  · rw [q_z_f c0]
    exact ⟨fun _ => q0' (fun z => c0 z.1), fun z => absurd rfl z⟩
end
section
/-! CharacterMap.isFound -/
def mpN (F : Nat → Nat) (cs cl : Nat) : Nat := U16 F cs cl 2
/-- the map: is it one of 3, 10; its place -/
def MAPe (F : Nat → Nat) (cs cl : Nat) : Option (Bool × Nat) := match FEr F cs cl 10 0 (mpN F cs cl) with
  | some k => some (true, U32 F cs cl (4 + 8 * k + 4))
  | none => match FEr F cs cl 1 0 (mpN F cs cl) with
    | some k => some (false, U32 F cs cl (4 + 8 * k + 4))
    | none => none
def MAP_ok (F : Nat → Nat) (cs cl : Nat) : Prop := 4 + 8 * mpN F cs cl ≤ cl ∧ ((∃ p, MAPe F cs cl = some (true, p) ∧ GR_ok F cs cl p) ∨ (∃ p, MAPe F cs cl = some (false, p) ∧ SG_ok F cs cl p))
theorem FEr_lt {F : Nat → Nat} {cs cl kd : Nat} : ∀ (r k j : Nat), FEr F cs cl kd k r = some j → j < k + r
  | 0, k, j, h => by cases h
  | r + 1, k, j, h => by
    unfold FEr at h
    split at h
    · cases h; omega
    · have := FEr_lt r (k + 1) j h; omega
set_option maxRecDepth 100000 in
set_option maxHeartbeats 4000000 in
theorem z_Cm_isFound {G : q_G} {l : Launch} {d a tc f row m n sz cs cl : Nat} {pl mn : Int32} {w : Bool} {oe : Option Nat} {g : Nat → Int32} {F : Nat → Nat} {h : q_H} {Q : q_P} (hA : h a = some (e_Cm tc (if w = true then 1 else 0) pl mn)) (hT : q_Ta h tc f cs cl) (hB : q_By h f row m g sz F) (hin : cs + cl ≤ sz) (hoe : ∀ k, oe = some k → k < 65536)
    (q1 : ∀ k, oe = some k → w = true → GR_ok F cs cl (U32 F cs cl (4 + 8 * k + 4)) → Q (some (.int 1)) (q_set h a (e_Cm tc 1 (nI (U32 F cs cl (4 + 8 * k + 4))) (nI (U32 F cs cl (U32 F cs cl (4 + 8 * k + 4) + 12))))) n)
    (q2 : ∀ k, oe = some k → w = false → SG_ok F cs cl (U32 F cs cl (4 + 8 * k + 4)) → Q (some (.int 1)) (q_set h a (e_Cm tc 0 (nI (U32 F cs cl (4 + 8 * k + 4))) (nI (sg_D F cs cl (U32 F cs cl (4 + 8 * k + 4)) / 2)))) n)
    (q0 : (∀ k, oe = some k → ¬ (if w = true then GR_ok F cs cl (U32 F cs cl (4 + 8 * k + 4)) else SG_ok F cs cl (U32 F cs cl (4 + 8 * k + 4)))) → ∀ pl mn, Q (some (.int 0)) (q_set h a (e_Cm tc (if w = true then 1 else 0) pl mn)) n) {x1 : Int32} :
    q_Z G l M_Cm_isFound (d + 4) 0 0 Q 65 [some (.ref a), some (.int x1), some (.int (q_fe oe))] [] h n 0 0 := by
  have hF := hB.2.2.2.2.2.2
  have hs : sz ≤ 16384 := Nat.le_trans hB.2.2.1 hB.2.2.2.1
  have hA' := hA
  unfold e_Cm at hA'
  have hT' : h tc = some (.inr (6, [.ref f, .int (nI cs), .int (nI cl)])) := hT
  have q0' : (∀ k, oe = some k → ¬ (if w = true then GR_ok F cs cl (U32 F cs cl (4 + 8 * k + 4)) else SG_ok F cs cl (U32 F cs cl (4 + 8 * k + 4)))) → Q (some (.int 0)) h n := fun z => by
    have := q0 z pl mn
    rw [s_id h hA] at this
    exact this
  have hta : tc ≠ a := fun q => by rw [q, hA'] at hT'; cases hT'
  have hfa : f ≠ a := fun q => by have := hB.1; rw [q, hA'] at this; cases this
  have hra := hB.ne hA'
  refine q_at o_Cm_isFound [] 20 l_Cm_isFound_65 ?_
  simp -implicitDefEqProofs only [s_go, s_nil, s_cons, q_ins, s_op, s_i, s_j, s_a, s_v, s_li, s_lj, s_la, s_liO, s_ljO, s_laO, q_get, q_p1, q_p2, s_n2i, s_n2r, s_n2l, s_n2n, q_pad, q_ar, s_ob, s_obO, q_nth, s_ri, s_riO, s_rb, s_rbO, s_rzO, s_rl, s_rlO, s_rq, s_rqO, s_ry, s_ryO, s_dn, s_tl, s_tn, s_ap, s_an, s_ci, s_cr, s_ni, s_n0, s_n1, q_ags, q_cat, List.contains_nil, List.contains_cons, Nat.reduceBEq, Bool.or_false, Bool.false_or, Bool.true_or, Bool.false_eq_true, ↓reduceIte, Nat.le_refl, Nat.zero_le, true_and, and_true, Nat.reduceLeDiff, Nat.reduceAdd, Nat.add_zero, Nat.zero_add, List.length_cons, List.length_nil, List.set_cons_zero, List.set_cons_succ, Nat.reduceLT, s_fi, s_fl, s_fo, s_fa, s_f0, s_f1, s_set, s_ss, lg_cmp_ge, lg_cmp_le, lg_cmp_gt, lg_cmp_lt, lg_cmp_eq, s_brT, s_brF, s_10, w_Cm_isFound, r_Cm_isFound, l_Cm_isFound_0, l_Cm_isFound_29, l_Cm_isFound_47, l_Cm_isFound_48, l_Cm_isFound_65, l_Cm_isFound_92, l_Cm_isFound_94, l_Cm_isFound_123, l_Cm_isFound_127, f_1_9, kc_2, ml_1_26, w_Ta_u16, kl_1_32, kb_8, ml_1_34, w_Ta_holds, kc_0, kb_10, ml_1_38, w_Cm_firstEntry, kc_m1, kc_1, f_1_15, ty_1_1, kc_4, ml_1_42, w_Ta_u32, f_1_46, f_1_19, ty_1_2, ml_1_49, w_Cm_hasGroups, ml_1_53, w_Cm_hasSegments, hA', hT']
  cases oe with
  | none => exact ⟨fun _ => q0' (fun k hk => by cases hk), fun c => absurd rfl c⟩
  | some k =>
    have hk := hoe k rfl
    refine ⟨fun c => absurd (show nI (4 + 8 * k) ≤ -1 by rw [show nI (4 + 8 * k) = -1 from c]; decide) (q_im1 (by omega)), fun _ => ?_⟩
    rw [show q_fe (some k) + 4 = nI (4 + 8 * k + 4) from nI_add _ 4]
    refine q_c0 (Nat.le_refl _) (Nat.le_refl _) ?_
    refine c_Ta_u32 hT hB hin (by omega) ?_
    have bp := U32_lt hF cs cl (4 + 8 * k + 4)
    simp -implicitDefEqProofs only [s_go, s_nil, s_cons, q_ins, s_op, s_i, s_j, s_a, s_v, s_li, s_lj, s_la, s_liO, s_ljO, s_laO, q_get, q_p1, q_p2, s_n2i, s_n2r, s_n2l, s_n2n, q_pad, q_ar, s_ob, s_obO, q_nth, s_ri, s_riO, s_rb, s_rbO, s_rzO, s_rl, s_rlO, s_rq, s_rqO, s_ry, s_ryO, s_dn, s_tl, s_tn, s_ap, s_an, s_ci, s_cr, s_ni, s_n0, s_n1, q_ags, q_cat, List.contains_nil, List.contains_cons, Nat.reduceBEq, Bool.or_false, Bool.false_or, Bool.true_or, Bool.false_eq_true, ↓reduceIte, Nat.le_refl, Nat.zero_le, true_and, and_true, Nat.reduceLeDiff, Nat.reduceAdd, Nat.add_zero, Nat.zero_add, List.length_cons, List.length_nil, List.set_cons_zero, List.set_cons_succ, Nat.reduceLT, s_fi, s_fl, s_fo, s_fa, s_f0, s_f1, s_set, s_ss, lg_cmp_ge, lg_cmp_le, lg_cmp_gt, lg_cmp_lt, lg_cmp_eq, s_brT, s_brF, s_10, w_Cm_isFound, r_Cm_isFound, l_Cm_isFound_0, l_Cm_isFound_29, l_Cm_isFound_47, l_Cm_isFound_48, l_Cm_isFound_65, l_Cm_isFound_92, l_Cm_isFound_94, l_Cm_isFound_123, l_Cm_isFound_127, f_1_9, kc_2, ml_1_26, w_Ta_u16, kl_1_32, kb_8, ml_1_34, w_Ta_holds, kc_0, kb_10, ml_1_38, w_Cm_firstEntry, kc_m1, kc_1, f_1_15, ty_1_1, kc_4, ml_1_42, w_Ta_u32, f_1_46, f_1_19, ty_1_2, ml_1_49, w_Cm_hasGroups, ml_1_53, w_Cm_hasSegments, hA', hT', nI_l (show cl < 2 ^ 31 by omega)]
    rw [pk_lLE (by omega) (by omega)]
    have big : ¬ U32 F cs cl (4 + 8 * k + 4) ≤ cl → ∀ j, some k = some j → ¬ (if w = true then GR_ok F cs cl (U32 F cs cl (4 + 8 * j + 4)) else SG_ok F cs cl (U32 F cs cl (4 + 8 * j + 4))) := by
      intro c j hj
      cases hj
      split
      · intro z; have := z.1; omega
      · intro z; have := z.1; omega
    refine ⟨fun c => ?_, fun c => q0' (big c)⟩
    rw [show q_fe (some k) + 4 = nI (4 + 8 * k + 4) from nI_add _ 4]
    refine q_c0 (Nat.le_refl _) (Nat.le_refl _) ?_
    refine c_Ta_u32 hT hB hin (by omega) ?_
    simp -implicitDefEqProofs only [s_go, s_nil, s_cons, q_ins, s_op, s_i, s_j, s_a, s_v, s_li, s_lj, s_la, s_liO, s_ljO, s_laO, q_get, q_p1, q_p2, s_n2i, s_n2r, s_n2l, s_n2n, q_pad, q_ar, s_ob, s_obO, q_nth, s_ri, s_riO, s_rb, s_rbO, s_rzO, s_rl, s_rlO, s_rq, s_rqO, s_ry, s_ryO, s_dn, s_tl, s_tn, s_ap, s_an, s_ci, s_cr, s_ni, s_n0, s_n1, q_ags, q_cat, List.contains_nil, List.contains_cons, Nat.reduceBEq, Bool.or_false, Bool.false_or, Bool.true_or, Bool.false_eq_true, ↓reduceIte, Nat.le_refl, Nat.zero_le, true_and, and_true, Nat.reduceLeDiff, Nat.reduceAdd, Nat.add_zero, Nat.zero_add, List.length_cons, List.length_nil, List.set_cons_zero, List.set_cons_succ, Nat.reduceLT, s_fi, s_fl, s_fo, s_fa, s_f0, s_f1, s_set, s_ss, lg_cmp_ge, lg_cmp_le, lg_cmp_gt, lg_cmp_lt, lg_cmp_eq, s_brT, s_brF, s_10, w_Cm_isFound, r_Cm_isFound, l_Cm_isFound_0, l_Cm_isFound_29, l_Cm_isFound_47, l_Cm_isFound_48, l_Cm_isFound_65, l_Cm_isFound_92, l_Cm_isFound_94, l_Cm_isFound_123, l_Cm_isFound_127, f_1_9, kc_2, ml_1_26, w_Ta_u16, kl_1_32, kb_8, ml_1_34, w_Ta_holds, kc_0, kb_10, ml_1_38, w_Cm_firstEntry, kc_m1, kc_1, f_1_15, ty_1_1, kc_4, ml_1_42, w_Ta_u32, f_1_46, f_1_19, ty_1_2, ml_1_49, w_Cm_hasGroups, ml_1_53, w_Cm_hasSegments, hA', hT', lN_i]
    generalize hp : U32 F cs cl (4 + 8 * k + 4) = p at *
    generalize hh1 : q_set h a _ = h1
    have A1 : h1 a = some (e_Cm tc (if w = true then 1 else 0) (nI p) mn) := by rw [← hh1]; exact s_set _ _ _
    have fr : q_1 h h1 a := fun b hb => by rw [← hh1]; exact s_ne _ _ hb
    have ss : ∀ x, q_set h1 a x = q_set h a x := fun x => by rw [← hh1, s_ss]
    have T1 : q_Ta h1 tc f cs cl := (fr tc hta).trans hT
    have B1 := hB.mv (fr f hfa) (fr row hra)
    cases w with
    | true =>
      refine ⟨fun z => absurd z (by decide), fun _ => ?_⟩
      refine q_c0 (Nat.le_refl _) (Nat.le_refl _) ?_
      refine c_Cm_hasGroups A1 T1 B1 hin c (fun z => ?_) (fun z mn' => ?_)
      · simp -implicitDefEqProofs only [s_go, s_nil, s_cons, q_ins, s_op, s_i, s_j, s_a, s_v, s_li, s_lj, s_la, s_liO, s_ljO, s_laO, q_get, q_p1, q_p2, s_n2i, s_n2r, s_n2l, s_n2n, q_pad, q_ar, s_ob, s_obO, q_nth, s_ri, s_riO, s_rb, s_rbO, s_rzO, s_rl, s_rlO, s_rq, s_rqO, s_ry, s_ryO, s_dn, s_tl, s_tn, s_ap, s_an, s_ci, s_cr, s_ni, s_n0, s_n1, q_ags, q_cat, List.contains_nil, List.contains_cons, Nat.reduceBEq, Bool.or_false, Bool.false_or, Bool.true_or, Bool.false_eq_true, ↓reduceIte, Nat.le_refl, Nat.zero_le, true_and, and_true, Nat.reduceLeDiff, Nat.reduceAdd, Nat.add_zero, Nat.zero_add, List.length_cons, List.length_nil, List.set_cons_zero, List.set_cons_succ, Nat.reduceLT, s_fi, s_fl, s_fo, s_fa, s_f0, s_f1, s_set, s_ss, lg_cmp_ge, lg_cmp_le, lg_cmp_gt, lg_cmp_lt, lg_cmp_eq, s_brT, s_brF, s_10, w_Cm_isFound, r_Cm_isFound, l_Cm_isFound_0, l_Cm_isFound_29, l_Cm_isFound_47, l_Cm_isFound_48, l_Cm_isFound_65, l_Cm_isFound_92, l_Cm_isFound_94, l_Cm_isFound_123, l_Cm_isFound_127, f_1_9, kc_2, ml_1_26, w_Ta_u16, kl_1_32, kb_8, ml_1_34, w_Ta_holds, kc_0, kb_10, ml_1_38, w_Cm_firstEntry, kc_m1, kc_1, f_1_15, ty_1_1, kc_4, ml_1_42, w_Ta_u32, f_1_46, f_1_19, ty_1_2, ml_1_49, w_Cm_hasGroups, ml_1_53, w_Cm_hasSegments]
        rw [ss]
        have := q1 k rfl rfl (by rw [hp]; exact z)
        rw [hp] at this
        exact this
      · simp -implicitDefEqProofs only [s_go, s_nil, s_cons, q_ins, s_op, s_i, s_j, s_a, s_v, s_li, s_lj, s_la, s_liO, s_ljO, s_laO, q_get, q_p1, q_p2, s_n2i, s_n2r, s_n2l, s_n2n, q_pad, q_ar, s_ob, s_obO, q_nth, s_ri, s_riO, s_rb, s_rbO, s_rzO, s_rl, s_rlO, s_rq, s_rqO, s_ry, s_ryO, s_dn, s_tl, s_tn, s_ap, s_an, s_ci, s_cr, s_ni, s_n0, s_n1, q_ags, q_cat, List.contains_nil, List.contains_cons, Nat.reduceBEq, Bool.or_false, Bool.false_or, Bool.true_or, Bool.false_eq_true, ↓reduceIte, Nat.le_refl, Nat.zero_le, true_and, and_true, Nat.reduceLeDiff, Nat.reduceAdd, Nat.add_zero, Nat.zero_add, List.length_cons, List.length_nil, List.set_cons_zero, List.set_cons_succ, Nat.reduceLT, s_fi, s_fl, s_fo, s_fa, s_f0, s_f1, s_set, s_ss, lg_cmp_ge, lg_cmp_le, lg_cmp_gt, lg_cmp_lt, lg_cmp_eq, s_brT, s_brF, s_10, w_Cm_isFound, r_Cm_isFound, l_Cm_isFound_0, l_Cm_isFound_29, l_Cm_isFound_47, l_Cm_isFound_48, l_Cm_isFound_65, l_Cm_isFound_92, l_Cm_isFound_94, l_Cm_isFound_123, l_Cm_isFound_127, f_1_9, kc_2, ml_1_26, w_Ta_u16, kl_1_32, kb_8, ml_1_34, w_Ta_holds, kc_0, kb_10, ml_1_38, w_Cm_firstEntry, kc_m1, kc_1, f_1_15, ty_1_1, kc_4, ml_1_42, w_Ta_u32, f_1_46, f_1_19, ty_1_2, ml_1_49, w_Cm_hasGroups, ml_1_53, w_Cm_hasSegments]
        rw [ss]
        exact q0 (fun j hj => by cases hj; rw [if_pos rfl, hp]; exact z) _ _
    | false =>
      refine ⟨fun _ => ?_, fun z => absurd rfl z⟩
      refine q_c0 (Nat.le_refl _) (Nat.le_refl _) ?_
      refine c_Cm_hasSegments A1 T1 B1 hin c (fun z => ?_) (fun z mn' => ?_)
      · simp -implicitDefEqProofs only [s_go, s_nil, s_cons, q_ins, s_op, s_i, s_j, s_a, s_v, s_li, s_lj, s_la, s_liO, s_ljO, s_laO, q_get, q_p1, q_p2, s_n2i, s_n2r, s_n2l, s_n2n, q_pad, q_ar, s_ob, s_obO, q_nth, s_ri, s_riO, s_rb, s_rbO, s_rzO, s_rl, s_rlO, s_rq, s_rqO, s_ry, s_ryO, s_dn, s_tl, s_tn, s_ap, s_an, s_ci, s_cr, s_ni, s_n0, s_n1, q_ags, q_cat, List.contains_nil, List.contains_cons, Nat.reduceBEq, Bool.or_false, Bool.false_or, Bool.true_or, Bool.false_eq_true, ↓reduceIte, Nat.le_refl, Nat.zero_le, true_and, and_true, Nat.reduceLeDiff, Nat.reduceAdd, Nat.add_zero, Nat.zero_add, List.length_cons, List.length_nil, List.set_cons_zero, List.set_cons_succ, Nat.reduceLT, s_fi, s_fl, s_fo, s_fa, s_f0, s_f1, s_set, s_ss, lg_cmp_ge, lg_cmp_le, lg_cmp_gt, lg_cmp_lt, lg_cmp_eq, s_brT, s_brF, s_10, w_Cm_isFound, r_Cm_isFound, l_Cm_isFound_0, l_Cm_isFound_29, l_Cm_isFound_47, l_Cm_isFound_48, l_Cm_isFound_65, l_Cm_isFound_92, l_Cm_isFound_94, l_Cm_isFound_123, l_Cm_isFound_127, f_1_9, kc_2, ml_1_26, w_Ta_u16, kl_1_32, kb_8, ml_1_34, w_Ta_holds, kc_0, kb_10, ml_1_38, w_Cm_firstEntry, kc_m1, kc_1, f_1_15, ty_1_1, kc_4, ml_1_42, w_Ta_u32, f_1_46, f_1_19, ty_1_2, ml_1_49, w_Cm_hasGroups, ml_1_53, w_Cm_hasSegments]
        rw [ss]
        have := q2 k rfl rfl (by rw [hp]; exact z)
        rw [hp] at this
        exact this
      · simp -implicitDefEqProofs only [s_go, s_nil, s_cons, q_ins, s_op, s_i, s_j, s_a, s_v, s_li, s_lj, s_la, s_liO, s_ljO, s_laO, q_get, q_p1, q_p2, s_n2i, s_n2r, s_n2l, s_n2n, q_pad, q_ar, s_ob, s_obO, q_nth, s_ri, s_riO, s_rb, s_rbO, s_rzO, s_rl, s_rlO, s_rq, s_rqO, s_ry, s_ryO, s_dn, s_tl, s_tn, s_ap, s_an, s_ci, s_cr, s_ni, s_n0, s_n1, q_ags, q_cat, List.contains_nil, List.contains_cons, Nat.reduceBEq, Bool.or_false, Bool.false_or, Bool.true_or, Bool.false_eq_true, ↓reduceIte, Nat.le_refl, Nat.zero_le, true_and, and_true, Nat.reduceLeDiff, Nat.reduceAdd, Nat.add_zero, Nat.zero_add, List.length_cons, List.length_nil, List.set_cons_zero, List.set_cons_succ, Nat.reduceLT, s_fi, s_fl, s_fo, s_fa, s_f0, s_f1, s_set, s_ss, lg_cmp_ge, lg_cmp_le, lg_cmp_gt, lg_cmp_lt, lg_cmp_eq, s_brT, s_brF, s_10, w_Cm_isFound, r_Cm_isFound, l_Cm_isFound_0, l_Cm_isFound_29, l_Cm_isFound_47, l_Cm_isFound_48, l_Cm_isFound_65, l_Cm_isFound_92, l_Cm_isFound_94, l_Cm_isFound_123, l_Cm_isFound_127, f_1_9, kc_2, ml_1_26, w_Ta_u16, kl_1_32, kb_8, ml_1_34, w_Ta_holds, kc_0, kb_10, ml_1_38, w_Cm_firstEntry, kc_m1, kc_1, f_1_15, ty_1_1, kc_4, ml_1_42, w_Ta_u32, f_1_46, f_1_19, ty_1_2, ml_1_49, w_Cm_hasGroups, ml_1_53, w_Cm_hasSegments]
        rw [ss]
        exact q0 (fun j hj => by cases hj; rw [if_neg (by decide), hp]; exact z) _ _
set_option maxRecDepth 100000 in
set_option maxHeartbeats 4000000 in
theorem c_Cm_isFound {G : q_G} {l : Launch} {d a tc f row m n sz cs cl : Nat} {og pl mn : Int32} {g : Nat → Int32} {F : Nat → Nat} {h : q_H} {Q : q_P} (hA : h a = some (e_Cm tc og pl mn)) (hT : q_Ta h tc f cs cl) (hB : q_By h f row m g sz F) (hin : cs + cl ≤ sz) (hog : og = 0 ∨ og = 1)
    (q1 : ∀ p, MAP_ok F cs cl → MAPe F cs cl = some (true, p) → GR_ok F cs cl p → Q (some (.int 1)) (q_set h a (e_Cm tc 1 (nI p) (nI (U32 F cs cl (p + 12))))) n)
    (q2 : ∀ p, MAP_ok F cs cl → MAPe F cs cl = some (false, p) → SG_ok F cs cl p → Q (some (.int 1)) (q_set h a (e_Cm tc 0 (nI p) (nI (sg_D F cs cl p / 2)))) n)
    (q0 : ¬ MAP_ok F cs cl → ∀ og pl mn, (og = 0 ∨ og = 1) → Q (some (.int 0)) (q_set h a (e_Cm tc og pl mn)) n) : q_Call G l M_Cm_isFound (d + 4) 0 0 [.ref a] h n Q := by
  have hF := hB.2.2.2.2.2.2
  have hs : sz ≤ 16384 := Nat.le_trans hB.2.2.1 hB.2.2.2.1
  have hA' := hA
  unfold e_Cm at hA'
  have hT' : h tc = some (.inr (6, [.ref f, .int (nI cs), .int (nI cl)])) := hT
  have q0' : ¬ MAP_ok F cs cl → Q (some (.int 0)) h n := fun z => by
    have := q0 z og pl mn hog
    rw [s_id h hA] at this
    exact this
  have hta : tc ≠ a := fun q => by rw [q, hA'] at hT'; cases hT'
  have hfa : f ≠ a := fun q => by have := hB.1; rw [q, hA'] at this; cases this
  have hra := hB.ne hA'
  have bN : mpN F cs cl < 65536 := U16_lt hF cs cl 2
  refine q_in u_Cm_isFound (by rw [L_Cm_isFound]; exact Nat.le_of_ble_eq_true rfl) ?_
  rw [L_Cm_isFound]
  refine q_at o_Cm_isFound [65] 20 l_Cm_isFound_0 ?_
  simp -implicitDefEqProofs only [s_go, s_nil, s_cons, q_ins, s_op, s_i, s_j, s_a, s_v, s_li, s_lj, s_la, s_liO, s_ljO, s_laO, q_get, q_p1, q_p2, s_n2i, s_n2r, s_n2l, s_n2n, q_pad, q_ar, s_ob, s_obO, q_nth, s_ri, s_riO, s_rb, s_rbO, s_rzO, s_rl, s_rlO, s_rq, s_rqO, s_ry, s_ryO, s_dn, s_tl, s_tn, s_ap, s_an, s_ci, s_cr, s_ni, s_n0, s_n1, q_ags, q_cat, List.contains_nil, List.contains_cons, Nat.reduceBEq, Bool.or_false, Bool.false_or, Bool.true_or, Bool.false_eq_true, ↓reduceIte, Nat.le_refl, Nat.zero_le, true_and, and_true, Nat.reduceLeDiff, Nat.reduceAdd, Nat.add_zero, Nat.zero_add, List.length_cons, List.length_nil, List.set_cons_zero, List.set_cons_succ, Nat.reduceLT, s_fi, s_fl, s_fo, s_fa, s_f0, s_f1, s_set, s_ss, lg_cmp_ge, lg_cmp_le, lg_cmp_gt, lg_cmp_lt, lg_cmp_eq, s_brT, s_brF, s_10, w_Cm_isFound, r_Cm_isFound, l_Cm_isFound_0, l_Cm_isFound_29, l_Cm_isFound_47, l_Cm_isFound_48, l_Cm_isFound_65, l_Cm_isFound_92, l_Cm_isFound_94, l_Cm_isFound_123, l_Cm_isFound_127, f_1_9, kc_2, ml_1_26, w_Ta_u16, kl_1_32, kb_8, ml_1_34, w_Ta_holds, kc_0, kb_10, ml_1_38, w_Cm_firstEntry, kc_m1, kc_1, f_1_15, ty_1_1, kc_4, ml_1_42, w_Ta_u32, f_1_46, f_1_19, ty_1_2, ml_1_49, w_Cm_hasGroups, ml_1_53, w_Cm_hasSegments, hA', hT']
  refine q_c0 (Nat.le_refl _) (Nat.le_refl _) ?_
  refine c_Ta_u16 (j := 2) hT hB hin (by omega) ?_
  simp -implicitDefEqProofs only [s_go, s_nil, s_cons, q_ins, s_op, s_i, s_j, s_a, s_v, s_li, s_lj, s_la, s_liO, s_ljO, s_laO, q_get, q_p1, q_p2, s_n2i, s_n2r, s_n2l, s_n2n, q_pad, q_ar, s_ob, s_obO, q_nth, s_ri, s_riO, s_rb, s_rbO, s_rzO, s_rl, s_rlO, s_rq, s_rqO, s_ry, s_ryO, s_dn, s_tl, s_tn, s_ap, s_an, s_ci, s_cr, s_ni, s_n0, s_n1, q_ags, q_cat, List.contains_nil, List.contains_cons, Nat.reduceBEq, Bool.or_false, Bool.false_or, Bool.true_or, Bool.false_eq_true, ↓reduceIte, Nat.le_refl, Nat.zero_le, true_and, and_true, Nat.reduceLeDiff, Nat.reduceAdd, Nat.add_zero, Nat.zero_add, List.length_cons, List.length_nil, List.set_cons_zero, List.set_cons_succ, Nat.reduceLT, s_fi, s_fl, s_fo, s_fa, s_f0, s_f1, s_set, s_ss, lg_cmp_ge, lg_cmp_le, lg_cmp_gt, lg_cmp_lt, lg_cmp_eq, s_brT, s_brF, s_10, w_Cm_isFound, r_Cm_isFound, l_Cm_isFound_0, l_Cm_isFound_29, l_Cm_isFound_47, l_Cm_isFound_48, l_Cm_isFound_65, l_Cm_isFound_92, l_Cm_isFound_94, l_Cm_isFound_123, l_Cm_isFound_127, f_1_9, kc_2, ml_1_26, w_Ta_u16, kl_1_32, kb_8, ml_1_34, w_Ta_holds, kc_0, kb_10, ml_1_38, w_Cm_firstEntry, kc_m1, kc_1, f_1_15, ty_1_1, kc_4, ml_1_42, w_Ta_u32, f_1_46, f_1_19, ty_1_2, ml_1_49, w_Cm_hasGroups, ml_1_53, w_Cm_hasSegments, hA', hT']
  rw [show nI (U16 F cs cl 2) = nI (mpN F cs cl) from rfl, show (8 : Int32) * nI (mpN F cs cl) = nI (8 * mpN F cs cl) from pk_mul 8 _, nI_l (by omega)]
  refine q_c0 (Nat.le_refl _) (Nat.le_refl _) ?_
  refine c_Ta_holds (x := 4) hT (by omega) (by omega) (by omega) ?_
  simp -implicitDefEqProofs only [s_go, s_nil, s_cons, q_ins, s_op, s_i, s_j, s_a, s_v, s_li, s_lj, s_la, s_liO, s_ljO, s_laO, q_get, q_p1, q_p2, s_n2i, s_n2r, s_n2l, s_n2n, q_pad, q_ar, s_ob, s_obO, q_nth, s_ri, s_riO, s_rb, s_rbO, s_rzO, s_rl, s_rlO, s_rq, s_rqO, s_ry, s_ryO, s_dn, s_tl, s_tn, s_ap, s_an, s_ci, s_cr, s_ni, s_n0, s_n1, q_ags, q_cat, List.contains_nil, List.contains_cons, Nat.reduceBEq, Bool.or_false, Bool.false_or, Bool.true_or, Bool.false_eq_true, ↓reduceIte, Nat.le_refl, Nat.zero_le, true_and, and_true, Nat.reduceLeDiff, Nat.reduceAdd, Nat.add_zero, Nat.zero_add, List.length_cons, List.length_nil, List.set_cons_zero, List.set_cons_succ, Nat.reduceLT, s_fi, s_fl, s_fo, s_fa, s_f0, s_f1, s_set, s_ss, lg_cmp_ge, lg_cmp_le, lg_cmp_gt, lg_cmp_lt, lg_cmp_eq, s_brT, s_brF, s_10, w_Cm_isFound, r_Cm_isFound, l_Cm_isFound_0, l_Cm_isFound_29, l_Cm_isFound_47, l_Cm_isFound_48, l_Cm_isFound_65, l_Cm_isFound_92, l_Cm_isFound_94, l_Cm_isFound_123, l_Cm_isFound_127, f_1_9, kc_2, ml_1_26, w_Ta_u16, kl_1_32, kb_8, ml_1_34, w_Ta_holds, kc_0, kb_10, ml_1_38, w_Cm_firstEntry, kc_m1, kc_1, f_1_15, ty_1_1, kc_4, ml_1_42, w_Ta_u32, f_1_46, f_1_19, ty_1_2, ml_1_49, w_Cm_hasGroups, ml_1_53, w_Cm_hasSegments, hA', hT']
  by_cases c0 : 4 + 8 * mpN F cs cl ≤ cl
  · rw [q_z_t c0]
    refine ⟨fun z => absurd z (by decide), fun _ => ?_⟩
    refine q_c0 (Nat.le_refl _) (Nat.le_refl _) ?_
    refine c_Cm_firstEntry (kd := 10) hA hT hB hin bN (by omega) ?_
    simp -implicitDefEqProofs only [s_go, s_nil, s_cons, q_ins, s_op, s_i, s_j, s_a, s_v, s_li, s_lj, s_la, s_liO, s_ljO, s_laO, q_get, q_p1, q_p2, s_n2i, s_n2r, s_n2l, s_n2n, q_pad, q_ar, s_ob, s_obO, q_nth, s_ri, s_riO, s_rb, s_rbO, s_rzO, s_rl, s_rlO, s_rq, s_rqO, s_ry, s_ryO, s_dn, s_tl, s_tn, s_ap, s_an, s_ci, s_cr, s_ni, s_n0, s_n1, q_ags, q_cat, List.contains_nil, List.contains_cons, Nat.reduceBEq, Bool.or_false, Bool.false_or, Bool.true_or, Bool.false_eq_true, ↓reduceIte, Nat.le_refl, Nat.zero_le, true_and, and_true, Nat.reduceLeDiff, Nat.reduceAdd, Nat.add_zero, Nat.zero_add, List.length_cons, List.length_nil, List.set_cons_zero, List.set_cons_succ, Nat.reduceLT, s_fi, s_fl, s_fo, s_fa, s_f0, s_f1, s_set, s_ss, lg_cmp_ge, lg_cmp_le, lg_cmp_gt, lg_cmp_lt, lg_cmp_eq, s_brT, s_brF, s_10, w_Cm_isFound, r_Cm_isFound, l_Cm_isFound_0, l_Cm_isFound_29, l_Cm_isFound_47, l_Cm_isFound_48, l_Cm_isFound_65, l_Cm_isFound_92, l_Cm_isFound_94, l_Cm_isFound_123, l_Cm_isFound_127, f_1_9, kc_2, ml_1_26, w_Ta_u16, kl_1_32, kb_8, ml_1_34, w_Ta_holds, kc_0, kb_10, ml_1_38, w_Cm_firstEntry, kc_m1, kc_1, f_1_15, ty_1_1, kc_4, ml_1_42, w_Ta_u32, f_1_46, f_1_19, ty_1_2, ml_1_49, w_Cm_hasGroups, ml_1_53, w_Cm_hasSegments, hA', hT']
    have me : ∀ v, FEr F cs cl 10 0 (mpN F cs cl) = v → MAPe F cs cl = (match v with | some k => some (true, U32 F cs cl (4 + 8 * k + 4)) | none => match FEr F cs cl 1 0 (mpN F cs cl) with | some k => some (false, U32 F cs cl (4 + 8 * k + 4)) | none => none) := fun v hv => by unfold MAPe; rw [hv]
    cases h10 : FEr F cs cl 10 0 (mpN F cs cl) with
    | some k =>
      have me := me _ h10
      dsimp only at me
      have hk := FEr_lt _ _ _ h10
      refine ⟨fun c => absurd (show nI (4 + 8 * k) ≤ -1 by rw [show nI (4 + 8 * k) = -1 from c]; decide) (q_im1 (by omega)), fun _ => ?_⟩
      generalize hh1 : q_set h a _ = h1
      have A1 : h1 a = some (e_Cm tc 1 pl mn) := by rw [← hh1]; exact s_set _ _ _
      have fr : q_1 h h1 a := fun b hb => by rw [← hh1]; exact s_ne _ _ hb
      have ss : ∀ x, q_set h1 a x = q_set h a x := fun x => by rw [← hh1, s_ss]
      refine z_Cm_isFound (w := true) (oe := some k) A1 ((fr tc hta).trans hT) (hB.mv (fr f hfa) (fr row hra)) hin (fun j hj => by cases hj; omega) (fun j hj _ z => ?_) (fun _ _ q => by cases q) (fun z pl mn => ?_)
      · cases hj
        rw [ss]
        exact q1 _ ⟨c0, Or.inl ⟨_, me, z⟩⟩ me z
      · rw [ss]
        refine q0 (fun y => ?_) _ _ _ (Or.inr rfl)
        have z := z k rfl
        rw [if_pos rfl] at z
        rcases y.2 with ⟨p, e, y⟩ | ⟨p, e, y⟩
        · rw [me] at e; cases e; exact z y
        · rw [me] at e; cases e
    | none =>
      have me := me _ h10
      dsimp only at me
      refine ⟨fun _ => ?_, fun c => absurd rfl c⟩
      generalize hh1 : q_set h a _ = h1
      have A1 : h1 a = some (e_Cm tc 0 pl mn) := by rw [← hh1]; exact s_set _ _ _
      have fr : q_1 h h1 a := fun b hb => by rw [← hh1]; exact s_ne _ _ hb
      have ss : ∀ x, q_set h1 a x = q_set h a x := fun x => by rw [← hh1, s_ss]
      refine q_c0 (Nat.le_refl _) (Nat.le_refl _) ?_
      refine c_Cm_firstEntry (kd := 1) A1 ((fr tc hta).trans hT) (hB.mv (fr f hfa) (fr row hra)) hin bN (by omega) ?_
      simp -implicitDefEqProofs only [s_go, s_nil, s_cons, q_ins, s_op, s_i, s_j, s_a, s_v, s_li, s_lj, s_la, s_liO, s_ljO, s_laO, q_get, q_p1, q_p2, s_n2i, s_n2r, s_n2l, s_n2n, q_pad, q_ar, s_ob, s_obO, q_nth, s_ri, s_riO, s_rb, s_rbO, s_rzO, s_rl, s_rlO, s_rq, s_rqO, s_ry, s_ryO, s_dn, s_tl, s_tn, s_ap, s_an, s_ci, s_cr, s_ni, s_n0, s_n1, q_ags, q_cat, List.contains_nil, List.contains_cons, Nat.reduceBEq, Bool.or_false, Bool.false_or, Bool.true_or, Bool.false_eq_true, ↓reduceIte, Nat.le_refl, Nat.zero_le, true_and, and_true, Nat.reduceLeDiff, Nat.reduceAdd, Nat.add_zero, Nat.zero_add, List.length_cons, List.length_nil, List.set_cons_zero, List.set_cons_succ, Nat.reduceLT, s_fi, s_fl, s_fo, s_fa, s_f0, s_f1, s_set, s_ss, lg_cmp_ge, lg_cmp_le, lg_cmp_gt, lg_cmp_lt, lg_cmp_eq, s_brT, s_brF, s_10, w_Cm_isFound, r_Cm_isFound, l_Cm_isFound_0, l_Cm_isFound_29, l_Cm_isFound_47, l_Cm_isFound_48, l_Cm_isFound_65, l_Cm_isFound_92, l_Cm_isFound_94, l_Cm_isFound_123, l_Cm_isFound_127, f_1_9, kc_2, ml_1_26, w_Ta_u16, kl_1_32, kb_8, ml_1_34, w_Ta_holds, kc_0, kb_10, ml_1_38, w_Cm_firstEntry, kc_m1, kc_1, f_1_15, ty_1_1, kc_4, ml_1_42, w_Ta_u32, f_1_46, f_1_19, ty_1_2, ml_1_49, w_Cm_hasGroups, ml_1_53, w_Cm_hasSegments]
      refine z_Cm_isFound (w := false) (oe := FEr F cs cl 1 0 (mpN F cs cl)) A1 ((fr tc hta).trans hT) (hB.mv (fr f hfa) (fr row hra)) hin (fun j hj => by have := FEr_lt _ _ _ hj; omega) (fun _ _ q => by cases q) (fun j hj _ z => ?_) (fun z pl mn => ?_)
      · rw [ss]
        rw [hj] at me
        exact q2 _ ⟨c0, Or.inr ⟨_, me, z⟩⟩ me z
      · rw [ss]
        refine q0 (fun y => ?_) _ _ _ (Or.inl rfl)
        cases h1' : FEr F cs cl 1 0 (mpN F cs cl) with
        | none =>
          rw [h1'] at me
          dsimp only at me
          rcases y.2 with ⟨p, e, y⟩ | ⟨p, e, y⟩ <;> (rw [me] at e; cases e)
        | some j =>
          rw [h1'] at me
          dsimp only at me
          have z := z j h1'
          rw [if_neg (by decide)] at z
          rcases y.2 with ⟨p, e, y⟩ | ⟨p, e, y⟩
          · rw [me] at e; cases e
          · rw [me] at e; cases e; exact z y
  · rw [q_z_f c0]
    exact ⟨fun _ => q0' (fun z => c0 z.1), fun z => absurd rfl z⟩
/-- the glyph of a character by groups, from k on among r -/
def GGr (F : Nat → Nat) (cs cl p c : Nat) : Nat → Nat → Nat
  | _, 0 => 0
  | k, r + 1 => if g_f F cs cl p k ≤ c ∧ c ≤ g_l F cs cl p k then (U32 F cs cl (p + 16 + 12 * k + 8) + (c - g_f F cs cl p k)) % 4294967296 else GGr F cs cl p c (k + 1) r
set_option maxRecDepth 100000 in
set_option maxHeartbeats 4000000 in
theorem z_Cm_glyphByGroups {G : q_G} {l : Launch} {d a tc f row m n sz cs cl p N c : Nat} {og : Int32} {g : Nat → Int32} {F : Nat → Nat} {h : q_H} {Q : q_P} (hA : h a = some (e_Cm tc og (nI p) (nI N))) (hT : q_Ta h tc f cs cl) (hB : q_By h f row m g sz F) (hin : cs + cl ≤ sz) (hp : p ≤ 16384) (hN : N ≤ 16384) (hc : c ≤ 1114111) :
    ∀ (r k : Nat), k + r = N → Q (some (.long (lN (GGr F cs cl p c k r)))) h n → q_Z G l M_Cm_glyphByGroups (d + 2) 0 0 Q 2 [some (.ref a), some (.int (nI c)), some (.int (nI k)), none, none, none] [] h n 0 0 := by
  have hF := hB.2.2.2.2.2.2
  unfold e_Cm at hA
  have hT' : h tc = some (.inr (6, [.ref f, .int (nI cs), .int (nI cl)])) := hT
  intro r
  induction r with
  | zero =>
    intro k hk hq
    refine q_at o_Cm_glyphByGroups [2] 20 l_Cm_glyphByGroups_2 ?_
    simp -implicitDefEqProofs only [s_go, s_nil, s_cons, q_ins, s_op, s_i, s_j, s_a, s_v, s_li, s_lj, s_la, s_liO, s_ljO, s_laO, q_get, q_p1, q_p2, s_n2i, s_n2r, s_n2l, s_n2n, q_pad, q_ar, s_ob, s_obO, q_nth, s_ri, s_riO, s_rb, s_rbO, s_rzO, s_rl, s_rlO, s_rq, s_rqO, s_ry, s_ryO, s_dn, s_tl, s_tn, s_ap, s_an, s_ci, s_cr, s_ni, s_n0, s_n1, q_ags, q_cat, List.contains_nil, List.contains_cons, Nat.reduceBEq, Bool.or_false, Bool.false_or, Bool.true_or, Bool.false_eq_true, ↓reduceIte, Nat.le_refl, Nat.zero_le, true_and, and_true, Nat.reduceLeDiff, Nat.reduceAdd, Nat.add_zero, Nat.zero_add, List.length_cons, List.length_nil, List.set_cons_zero, List.set_cons_succ, Nat.reduceLT, s_fi, s_fl, s_fo, s_fa, s_f0, s_f1, s_set, s_ss, lg_cmp_ge, lg_cmp_le, lg_cmp_gt, lg_cmp_lt, lg_cmp_eq, s_brT, s_brF, s_10, w_Cm_glyphByGroups, r_Cm_glyphByGroups, l_Cm_glyphByGroups_0, l_Cm_glyphByGroups_2, l_Cm_glyphByGroups_79, l_Cm_glyphByGroups_85, kc_0, f_1_23, f_1_19, kb_16, kb_12, f_1_9, ml_1_42, w_Ta_u32, kc_4, kb_8, kl_1_77, kc_1, kj_0, hA, hT']
    exact ⟨fun _ => hq, fun c => absurd (nI_le (by omega) (by omega)) c⟩
  | succ r ih =>
    intro k hk hq
    have b1 := U32_lt hF cs cl (p + 16 + 12 * k)
    have b2 := U32_lt hF cs cl (p + 16 + 12 * k + 4)
    have b3 := U32_lt hF cs cl (p + 16 + 12 * k + 8)
    refine q_at o_Cm_glyphByGroups [2] 20 l_Cm_glyphByGroups_2 ?_
    simp -implicitDefEqProofs only [s_go, s_nil, s_cons, q_ins, s_op, s_i, s_j, s_a, s_v, s_li, s_lj, s_la, s_liO, s_ljO, s_laO, q_get, q_p1, q_p2, s_n2i, s_n2r, s_n2l, s_n2n, q_pad, q_ar, s_ob, s_obO, q_nth, s_ri, s_riO, s_rb, s_rbO, s_rzO, s_rl, s_rlO, s_rq, s_rqO, s_ry, s_ryO, s_dn, s_tl, s_tn, s_ap, s_an, s_ci, s_cr, s_ni, s_n0, s_n1, q_ags, q_cat, List.contains_nil, List.contains_cons, Nat.reduceBEq, Bool.or_false, Bool.false_or, Bool.true_or, Bool.false_eq_true, ↓reduceIte, Nat.le_refl, Nat.zero_le, true_and, and_true, Nat.reduceLeDiff, Nat.reduceAdd, Nat.add_zero, Nat.zero_add, List.length_cons, List.length_nil, List.set_cons_zero, List.set_cons_succ, Nat.reduceLT, s_fi, s_fl, s_fo, s_fa, s_f0, s_f1, s_set, s_ss, lg_cmp_ge, lg_cmp_le, lg_cmp_gt, lg_cmp_lt, lg_cmp_eq, s_brT, s_brF, s_10, w_Cm_glyphByGroups, r_Cm_glyphByGroups, l_Cm_glyphByGroups_0, l_Cm_glyphByGroups_2, l_Cm_glyphByGroups_79, l_Cm_glyphByGroups_85, kc_0, f_1_23, f_1_19, kb_16, kb_12, f_1_9, ml_1_42, w_Ta_u32, kc_4, kb_8, kl_1_77, kc_1, kj_0, hA, hT']
    refine ⟨fun c => absurd ((nI_leI (by omega) (by omega)).mp c) (by omega), fun _ => ?_⟩
    rw [show (12 : Int32) * nI k = nI (12 * k) from pk_mul 12 k, show nI p + 16 = nI (p + 16) from nI_add p 16, nI_add]
    refine q_c0 (Nat.le_refl _) (Nat.le_refl _) ?_
    refine c_Ta_u32 hT hB hin (by omega) ?_
    simp -implicitDefEqProofs only [s_go, s_nil, s_cons, q_ins, s_op, s_i, s_j, s_a, s_v, s_li, s_lj, s_la, s_liO, s_ljO, s_laO, q_get, q_p1, q_p2, s_n2i, s_n2r, s_n2l, s_n2n, q_pad, q_ar, s_ob, s_obO, q_nth, s_ri, s_riO, s_rb, s_rbO, s_rzO, s_rl, s_rlO, s_rq, s_rqO, s_ry, s_ryO, s_dn, s_tl, s_tn, s_ap, s_an, s_ci, s_cr, s_ni, s_n0, s_n1, q_ags, q_cat, List.contains_nil, List.contains_cons, Nat.reduceBEq, Bool.or_false, Bool.false_or, Bool.true_or, Bool.false_eq_true, ↓reduceIte, Nat.le_refl, Nat.zero_le, true_and, and_true, Nat.reduceLeDiff, Nat.reduceAdd, Nat.add_zero, Nat.zero_add, List.length_cons, List.length_nil, List.set_cons_zero, List.set_cons_succ, Nat.reduceLT, s_fi, s_fl, s_fo, s_fa, s_f0, s_f1, s_set, s_ss, lg_cmp_ge, lg_cmp_le, lg_cmp_gt, lg_cmp_lt, lg_cmp_eq, s_brT, s_brF, s_10, w_Cm_glyphByGroups, r_Cm_glyphByGroups, l_Cm_glyphByGroups_0, l_Cm_glyphByGroups_2, l_Cm_glyphByGroups_79, l_Cm_glyphByGroups_85, kc_0, f_1_23, f_1_19, kb_16, kb_12, f_1_9, ml_1_42, w_Ta_u32, kc_4, kb_8, kl_1_77, kc_1, kj_0, hA, hT', nI_l (show c < 2 ^ 31 by omega)]
    rw [pk_lLT (by omega) (by omega)]
    have nxt : ¬ (g_f F cs cl p k ≤ c ∧ c ≤ g_l F cs cl p k) → q_Z G l M_Cm_glyphByGroups (d + 2) 0 0 Q 2 [some (.ref a), some (.int (nI c)), some (.int (nI (k + 1))), none, none, none] [] h n 0 0 := by
      intro y
      refine ih (k + 1) (by omega) ?_
      have e : GGr F cs cl p c k (r + 1) = GGr F cs cl p c (k + 1) r := by
        show (if _ then _ else GGr F cs cl p c (k + 1) r) = _
        rw [if_neg y]
      rw [e] at hq
      exact hq
    refine ⟨fun y => q_wk (nxt (fun z => by have := z.1; unfold g_f at this; omega)) ⟨rfl, rfl, by rw [nI_1], trivial⟩, fun y => ?_⟩
    rw [show nI (p + 16 + 12 * k) + 4 = nI (p + 16 + 12 * k + 4) from nI_add _ 4]
    refine q_c0 (Nat.le_refl _) (Nat.le_refl _) ?_
    refine c_Ta_u32 hT hB hin (by omega) ?_
    simp -implicitDefEqProofs only [s_go, s_nil, s_cons, q_ins, s_op, s_i, s_j, s_a, s_v, s_li, s_lj, s_la, s_liO, s_ljO, s_laO, q_get, q_p1, q_p2, s_n2i, s_n2r, s_n2l, s_n2n, q_pad, q_ar, s_ob, s_obO, q_nth, s_ri, s_riO, s_rb, s_rbO, s_rzO, s_rl, s_rlO, s_rq, s_rqO, s_ry, s_ryO, s_dn, s_tl, s_tn, s_ap, s_an, s_ci, s_cr, s_ni, s_n0, s_n1, q_ags, q_cat, List.contains_nil, List.contains_cons, Nat.reduceBEq, Bool.or_false, Bool.false_or, Bool.true_or, Bool.false_eq_true, ↓reduceIte, Nat.le_refl, Nat.zero_le, true_and, and_true, Nat.reduceLeDiff, Nat.reduceAdd, Nat.add_zero, Nat.zero_add, List.length_cons, List.length_nil, List.set_cons_zero, List.set_cons_succ, Nat.reduceLT, s_fi, s_fl, s_fo, s_fa, s_f0, s_f1, s_set, s_ss, lg_cmp_ge, lg_cmp_le, lg_cmp_gt, lg_cmp_lt, lg_cmp_eq, s_brT, s_brF, s_10, w_Cm_glyphByGroups, r_Cm_glyphByGroups, l_Cm_glyphByGroups_0, l_Cm_glyphByGroups_2, l_Cm_glyphByGroups_79, l_Cm_glyphByGroups_85, kc_0, f_1_23, f_1_19, kb_16, kb_12, f_1_9, ml_1_42, w_Ta_u32, kc_4, kb_8, kl_1_77, kc_1, kj_0, hA, hT', nI_l (show c < 2 ^ 31 by omega)]
    rw [pk_lLT (by omega) (by omega)]
    refine ⟨fun y1 => q_wk (nxt (fun z => by have := z.2; unfold g_l at this; omega)) ⟨rfl, rfl, by rw [nI_1], trivial⟩, fun y1 => ?_⟩
    rw [show nI (p + 16 + 12 * k) + 8 = nI (p + 16 + 12 * k + 8) from nI_add _ 8]
    refine q_c0 (Nat.le_refl _) (Nat.le_refl _) ?_
    refine c_Ta_u32 hT hB hin (by omega) ?_
    simp -implicitDefEqProofs only [s_go, s_nil, s_cons, q_ins, s_op, s_i, s_j, s_a, s_v, s_li, s_lj, s_la, s_liO, s_ljO, s_laO, q_get, q_p1, q_p2, s_n2i, s_n2r, s_n2l, s_n2n, q_pad, q_ar, s_ob, s_obO, q_nth, s_ri, s_riO, s_rb, s_rbO, s_rzO, s_rl, s_rlO, s_rq, s_rqO, s_ry, s_ryO, s_dn, s_tl, s_tn, s_ap, s_an, s_ci, s_cr, s_ni, s_n0, s_n1, q_ags, q_cat, List.contains_nil, List.contains_cons, Nat.reduceBEq, Bool.or_false, Bool.false_or, Bool.true_or, Bool.false_eq_true, ↓reduceIte, Nat.le_refl, Nat.zero_le, true_and, and_true, Nat.reduceLeDiff, Nat.reduceAdd, Nat.add_zero, Nat.zero_add, List.length_cons, List.length_nil, List.set_cons_zero, List.set_cons_succ, Nat.reduceLT, s_fi, s_fl, s_fo, s_fa, s_f0, s_f1, s_set, s_ss, lg_cmp_ge, lg_cmp_le, lg_cmp_gt, lg_cmp_lt, lg_cmp_eq, s_brT, s_brF, s_10, w_Cm_glyphByGroups, r_Cm_glyphByGroups, l_Cm_glyphByGroups_0, l_Cm_glyphByGroups_2, l_Cm_glyphByGroups_79, l_Cm_glyphByGroups_85, kc_0, f_1_23, f_1_19, kb_16, kb_12, f_1_9, ml_1_42, w_Ta_u32, kc_4, kb_8, kl_1_77, kc_1, kj_0, hA, hT', nI_l (show c < 2 ^ 31 by omega), lN_sub (show U32 F cs cl (p + 16 + 12 * k) ≤ c by omega), lN_add]
    rw [lN_mask (by omega)]
    have e : GGr F cs cl p c k (r + 1) = (U32 F cs cl (p + 16 + 12 * k + 8) + (c - g_f F cs cl p k)) % 4294967296 := by
      show (if _ then _ else GGr F cs cl p c (k + 1) r) = _
      rw [if_pos ⟨by unfold g_f; omega, by unfold g_l; omega⟩]
    rw [e] at hq
    exact hq
set_option maxRecDepth 100000 in
set_option maxHeartbeats 4000000 in
theorem c_Cm_glyphByGroups {G : q_G} {l : Launch} {d a tc f row m n sz cs cl p N c : Nat} {og : Int32} {g : Nat → Int32} {F : Nat → Nat} {h : q_H} {Q : q_P} (hA : h a = some (e_Cm tc og (nI p) (nI N))) (hT : q_Ta h tc f cs cl) (hB : q_By h f row m g sz F) (hin : cs + cl ≤ sz) (hp : p ≤ 16384) (hN : N ≤ 16384) (hc : c ≤ 1114111) (hq : Q (some (.long (lN (GGr F cs cl p c 0 N)))) h n) : q_Call G l M_Cm_glyphByGroups (d + 2) 0 0 [.ref a, .int (nI c)] h n Q := by
  refine q_in u_Cm_glyphByGroups (by rw [L_Cm_glyphByGroups]; exact Nat.le_of_ble_eq_true rfl) ?_
  rw [L_Cm_glyphByGroups]
  refine q_at o_Cm_glyphByGroups [2] 20 l_Cm_glyphByGroups_0 ?_
  simp -implicitDefEqProofs only [s_go, s_nil, s_cons, q_ins, s_op, s_i, s_j, s_a, s_v, s_li, s_lj, s_la, s_liO, s_ljO, s_laO, q_get, q_p1, q_p2, s_n2i, s_n2r, s_n2l, s_n2n, q_pad, q_ar, s_ob, s_obO, q_nth, s_ri, s_riO, s_rb, s_rbO, s_rzO, s_rl, s_rlO, s_rq, s_rqO, s_ry, s_ryO, s_dn, s_tl, s_tn, s_ap, s_an, s_ci, s_cr, s_ni, s_n0, s_n1, q_ags, q_cat, List.contains_nil, List.contains_cons, Nat.reduceBEq, Bool.or_false, Bool.false_or, Bool.true_or, Bool.false_eq_true, ↓reduceIte, Nat.le_refl, Nat.zero_le, true_and, and_true, Nat.reduceLeDiff, Nat.reduceAdd, Nat.add_zero, Nat.zero_add, List.length_cons, List.length_nil, List.set_cons_zero, List.set_cons_succ, Nat.reduceLT, s_fi, s_fl, s_fo, s_fa, s_f0, s_f1, s_set, s_ss, lg_cmp_ge, lg_cmp_le, lg_cmp_gt, lg_cmp_lt, lg_cmp_eq, s_brT, s_brF, s_10, w_Cm_glyphByGroups, r_Cm_glyphByGroups, l_Cm_glyphByGroups_0, l_Cm_glyphByGroups_2, l_Cm_glyphByGroups_79, l_Cm_glyphByGroups_85, kc_0, f_1_23, f_1_19, kb_16, kb_12, f_1_9, ml_1_42, w_Ta_u32, kc_4, kb_8, kl_1_77, kc_1, kj_0]
  exact z_Cm_glyphByGroups hA hT hB hin hp hN hc N 0 (by omega) hq
/-- by the segment k -/
def SGw (F : Nat → Nat) (cs cl p S k : Nat) : Nat := U16 F cs cl (p + 16 + 6 * S + 2 * k)
def SG1 (F : Nat → Nat) (cs cl p S k c : Nat) : Nat :=
  if SGw F cs cl p S k = 0 then (c + U16 F cs cl (p + 16 + 4 * S + 2 * k)) % 65536
  else if p + 16 + 6 * S + 2 * k + SGw F cs cl p S k + 2 * (c - s_fi' F cs cl p S k) + 2 ≤ cl ∧ U16 F cs cl (p + 16 + 6 * S + 2 * k + SGw F cs cl p S k + 2 * (c - s_fi' F cs cl p S k)) ≠ 0 then (U16 F cs cl (p + 16 + 6 * S + 2 * k + SGw F cs cl p S k + 2 * (c - s_fi' F cs cl p S k)) + U16 F cs cl (p + 16 + 4 * S + 2 * k)) % 65536 else 0
theorem q_m16 {a : Nat} (h : a < 2 ^ 31) : nI a &&& 65535 = nI (a % 65536) := pk_andN (by omega) 16 (by decide)
set_option maxRecDepth 100000 in
set_option maxHeartbeats 4000000 in
theorem c_Cm_glyphBySegment {G : q_G} {l : Launch} {d a tc f row m n sz cs cl p S k c : Nat} {og : Int32} {g : Nat → Int32} {F : Nat → Nat} {h : q_H} {Q : q_P} (hA : h a = some (e_Cm tc og (nI p) (nI S))) (hT : q_Ta h tc f cs cl) (hB : q_By h f row m g sz F) (hin : cs + cl ≤ sz) (hp : p ≤ 16384) (hS : S ≤ 32768) (hk : k < S) (hc : c ≤ 65535) (hfc : s_fi' F cs cl p S k ≤ c) (hq : Q (some (.int (nI (SG1 F cs cl p S k c)))) h n) : q_Call G l M_Cm_glyphBySegment (d + 3) 0 0 [.ref a, .int (nI k), .int (nI c)] h n Q := by
  have hF := hB.2.2.2.2.2.2
  have hs : sz ≤ 16384 := Nat.le_trans hB.2.2.1 hB.2.2.2.1
  have hA' := hA
  unfold e_Cm at hA'
  have hT' : h tc = some (.inr (6, [.ref f, .int (nI cs), .int (nI cl)])) := hT
  have bd := U16_lt hF cs cl (p + 16 + 4 * S + 2 * k)
  have bw := U16_lt hF cs cl (p + 16 + 6 * S + 2 * k)
  have e4 : (4 : Int32) * nI S = nI (4 * S) := pk_mul 4 S
  have e6 : (6 : Int32) * nI S = nI (6 * S) := pk_mul 6 S
  have e2 : (2 : Int32) * nI k = nI (2 * k) := pk_mul 2 k
  have e16 : nI p + 16 = nI (p + 16) := nI_add p 16
  unfold SG1 SGw at hq
  refine q_in u_Cm_glyphBySegment (by rw [L_Cm_glyphBySegment]; exact Nat.le_of_ble_eq_true rfl) ?_
  rw [L_Cm_glyphBySegment]
  refine q_at o_Cm_glyphBySegment [] 20 l_Cm_glyphBySegment_0 ?_
  simp -implicitDefEqProofs only [s_go, s_nil, s_cons, q_ins, s_op, s_i, s_j, s_a, s_v, s_li, s_lj, s_la, s_liO, s_ljO, s_laO, q_get, q_p1, q_p2, s_n2i, s_n2r, s_n2l, s_n2n, q_pad, q_ar, s_ob, s_obO, q_nth, s_ri, s_riO, s_rb, s_rbO, s_rzO, s_rl, s_rlO, s_rq, s_rqO, s_ry, s_ryO, s_dn, s_tl, s_tn, s_ap, s_an, s_ci, s_cr, s_ni, s_n0, s_n1, q_ags, q_cat, List.contains_nil, List.contains_cons, Nat.reduceBEq, Bool.or_false, Bool.false_or, Bool.true_or, Bool.false_eq_true, ↓reduceIte, Nat.le_refl, Nat.zero_le, true_and, and_true, Nat.reduceLeDiff, Nat.reduceAdd, Nat.add_zero, Nat.zero_add, List.length_cons, List.length_nil, List.set_cons_zero, List.set_cons_succ, Nat.reduceLT, s_fi, s_fl, s_fo, s_fa, s_f0, s_f1, s_set, s_ss, lg_cmp_ge, lg_cmp_le, lg_cmp_gt, lg_cmp_lt, lg_cmp_eq, s_brT, s_brF, s_10, w_Cm_glyphBySegment, r_Cm_glyphBySegment, l_Cm_glyphBySegment_0, l_Cm_glyphBySegment_70, l_Cm_glyphBySegment_115, l_Cm_glyphBySegment_117, f_1_9, f_1_19, kb_16, kc_4, f_1_23, kc_2, ml_1_26, w_Ta_u16, kb_6, ki_1_70, ml_1_67, w_Cm_firstOf, kl_1_82, ml_1_34, w_Ta_holds, kc_0, hA', hT', e4, e2, e16, nI_add]
  refine q_c0 (Nat.le_refl _) (Nat.le_refl _) ?_
  refine c_Ta_u16 hT hB hin (by omega) ?_
  simp -implicitDefEqProofs only [s_go, s_nil, s_cons, q_ins, s_op, s_i, s_j, s_a, s_v, s_li, s_lj, s_la, s_liO, s_ljO, s_laO, q_get, q_p1, q_p2, s_n2i, s_n2r, s_n2l, s_n2n, q_pad, q_ar, s_ob, s_obO, q_nth, s_ri, s_riO, s_rb, s_rbO, s_rzO, s_rl, s_rlO, s_rq, s_rqO, s_ry, s_ryO, s_dn, s_tl, s_tn, s_ap, s_an, s_ci, s_cr, s_ni, s_n0, s_n1, q_ags, q_cat, List.contains_nil, List.contains_cons, Nat.reduceBEq, Bool.or_false, Bool.false_or, Bool.true_or, Bool.false_eq_true, ↓reduceIte, Nat.le_refl, Nat.zero_le, true_and, and_true, Nat.reduceLeDiff, Nat.reduceAdd, Nat.add_zero, Nat.zero_add, List.length_cons, List.length_nil, List.set_cons_zero, List.set_cons_succ, Nat.reduceLT, s_fi, s_fl, s_fo, s_fa, s_f0, s_f1, s_set, s_ss, lg_cmp_ge, lg_cmp_le, lg_cmp_gt, lg_cmp_lt, lg_cmp_eq, s_brT, s_brF, s_10, w_Cm_glyphBySegment, r_Cm_glyphBySegment, l_Cm_glyphBySegment_0, l_Cm_glyphBySegment_70, l_Cm_glyphBySegment_115, l_Cm_glyphBySegment_117, f_1_9, f_1_19, kb_16, kc_4, f_1_23, kc_2, ml_1_26, w_Ta_u16, kb_6, ki_1_70, ml_1_67, w_Cm_firstOf, kl_1_82, ml_1_34, w_Ta_holds, kc_0, hA', hT', e6, e2, e16, nI_add]
  refine q_c0 (Nat.le_refl _) (Nat.le_refl _) ?_
  refine c_Ta_u16 hT hB hin (by omega) ?_
  simp -implicitDefEqProofs only [s_go, s_nil, s_cons, q_ins, s_op, s_i, s_j, s_a, s_v, s_li, s_lj, s_la, s_liO, s_ljO, s_laO, q_get, q_p1, q_p2, s_n2i, s_n2r, s_n2l, s_n2n, q_pad, q_ar, s_ob, s_obO, q_nth, s_ri, s_riO, s_rb, s_rbO, s_rzO, s_rl, s_rlO, s_rq, s_rqO, s_ry, s_ryO, s_dn, s_tl, s_tn, s_ap, s_an, s_ci, s_cr, s_ni, s_n0, s_n1, q_ags, q_cat, List.contains_nil, List.contains_cons, Nat.reduceBEq, Bool.or_false, Bool.false_or, Bool.true_or, Bool.false_eq_true, ↓reduceIte, Nat.le_refl, Nat.zero_le, true_and, and_true, Nat.reduceLeDiff, Nat.reduceAdd, Nat.add_zero, Nat.zero_add, List.length_cons, List.length_nil, List.set_cons_zero, List.set_cons_succ, Nat.reduceLT, s_fi, s_fl, s_fo, s_fa, s_f0, s_f1, s_set, s_ss, lg_cmp_ge, lg_cmp_le, lg_cmp_gt, lg_cmp_lt, lg_cmp_eq, s_brT, s_brF, s_10, w_Cm_glyphBySegment, r_Cm_glyphBySegment, l_Cm_glyphBySegment_0, l_Cm_glyphBySegment_70, l_Cm_glyphBySegment_115, l_Cm_glyphBySegment_117, f_1_9, f_1_19, kb_16, kc_4, f_1_23, kc_2, ml_1_26, w_Ta_u16, kb_6, ki_1_70, ml_1_67, w_Cm_firstOf, kl_1_82, ml_1_34, w_Ta_holds, kc_0, hA', hT', nI_add]
  rw [show (nI (U16 F cs cl (p + 16 + 6 * S + 2 * k)) = (0 : Int32)) = (U16 F cs cl (p + 16 + 6 * S + 2 * k) = 0) from propext (nI_eq (b := 0) (by omega) (by omega))]
  refine ⟨fun y => ?_, fun y => ?_⟩
  · rw [if_pos y] at hq
    rw [q_m16 (by omega)]
    exact hq
  · rw [if_neg y] at hq
    refine q_c0 (Nat.le_refl _) (Nat.le_refl _) ?_
    refine c_Cm_firstOf hA hT hB hin hp (by omega) (by omega) ?_
    have e7 : nI c - nI (s_fi' F cs cl p S k) = nI (c - s_fi' F cs cl p S k) := pk_sub hfc
    have e8 : (2 : Int32) * nI (c - s_fi' F cs cl p S k) = nI (2 * (c - s_fi' F cs cl p S k)) := pk_mul 2 _
    rw [show nI (U16 F cs cl (p + 16 + 2 * S + 2 * k)) = nI (s_fi' F cs cl p S k) from rfl]
    generalize hP : p + 16 + 6 * S + 2 * k + U16 F cs cl (p + 16 + 6 * S + 2 * k) + 2 * (c - s_fi' F cs cl p S k) = P at *
    simp -implicitDefEqProofs only [s_go, s_nil, s_cons, q_ins, s_op, s_i, s_j, s_a, s_v, s_li, s_lj, s_la, s_liO, s_ljO, s_laO, q_get, q_p1, q_p2, s_n2i, s_n2r, s_n2l, s_n2n, q_pad, q_ar, s_ob, s_obO, q_nth, s_ri, s_riO, s_rb, s_rbO, s_rzO, s_rl, s_rlO, s_rq, s_rqO, s_ry, s_ryO, s_dn, s_tl, s_tn, s_ap, s_an, s_ci, s_cr, s_ni, s_n0, s_n1, q_ags, q_cat, List.contains_nil, List.contains_cons, Nat.reduceBEq, Bool.or_false, Bool.false_or, Bool.true_or, Bool.false_eq_true, ↓reduceIte, Nat.le_refl, Nat.zero_le, true_and, and_true, Nat.reduceLeDiff, Nat.reduceAdd, Nat.add_zero, Nat.zero_add, List.length_cons, List.length_nil, List.set_cons_zero, List.set_cons_succ, Nat.reduceLT, s_fi, s_fl, s_fo, s_fa, s_f0, s_f1, s_set, s_ss, lg_cmp_ge, lg_cmp_le, lg_cmp_gt, lg_cmp_lt, lg_cmp_eq, s_brT, s_brF, s_10, w_Cm_glyphBySegment, r_Cm_glyphBySegment, l_Cm_glyphBySegment_0, l_Cm_glyphBySegment_70, l_Cm_glyphBySegment_115, l_Cm_glyphBySegment_117, f_1_9, f_1_19, kb_16, kc_4, f_1_23, kc_2, ml_1_26, w_Ta_u16, kb_6, ki_1_70, ml_1_67, w_Cm_firstOf, kl_1_82, ml_1_34, w_Ta_holds, kc_0, hA', hT', e7, e8, nI_add, hP, nI_l (show P < 2 ^ 31 by omega)]
    refine q_c0 (Nat.le_refl _) (Nat.le_refl _) ?_
    refine c_Ta_holds (x := P) (y := 2) hT (by omega) (by omega) (by omega) ?_
    simp -implicitDefEqProofs only [s_go, s_nil, s_cons, q_ins, s_op, s_i, s_j, s_a, s_v, s_li, s_lj, s_la, s_liO, s_ljO, s_laO, q_get, q_p1, q_p2, s_n2i, s_n2r, s_n2l, s_n2n, q_pad, q_ar, s_ob, s_obO, q_nth, s_ri, s_riO, s_rb, s_rbO, s_rzO, s_rl, s_rlO, s_rq, s_rqO, s_ry, s_ryO, s_dn, s_tl, s_tn, s_ap, s_an, s_ci, s_cr, s_ni, s_n0, s_n1, q_ags, q_cat, List.contains_nil, List.contains_cons, Nat.reduceBEq, Bool.or_false, Bool.false_or, Bool.true_or, Bool.false_eq_true, ↓reduceIte, Nat.le_refl, Nat.zero_le, true_and, and_true, Nat.reduceLeDiff, Nat.reduceAdd, Nat.add_zero, Nat.zero_add, List.length_cons, List.length_nil, List.set_cons_zero, List.set_cons_succ, Nat.reduceLT, s_fi, s_fl, s_fo, s_fa, s_f0, s_f1, s_set, s_ss, lg_cmp_ge, lg_cmp_le, lg_cmp_gt, lg_cmp_lt, lg_cmp_eq, s_brT, s_brF, s_10, w_Cm_glyphBySegment, r_Cm_glyphBySegment, l_Cm_glyphBySegment_0, l_Cm_glyphBySegment_70, l_Cm_glyphBySegment_115, l_Cm_glyphBySegment_117, f_1_9, f_1_19, kb_16, kc_4, f_1_23, kc_2, ml_1_26, w_Ta_u16, kb_6, ki_1_70, ml_1_67, w_Cm_firstOf, kl_1_82, ml_1_34, w_Ta_holds, kc_0, hA', hT']
    have bl := U16_lt hF cs cl P
    by_cases c1 : P + 2 ≤ cl
    · rw [q_z_t c1]
      refine ⟨fun z => absurd z (by decide), fun _ => ?_⟩
      refine q_c0 (Nat.le_refl _) (Nat.le_refl _) ?_
      refine c_Ta_u16 hT hB hin (by omega) ?_
      simp -implicitDefEqProofs only [s_go, s_nil, s_cons, q_ins, s_op, s_i, s_j, s_a, s_v, s_li, s_lj, s_la, s_liO, s_ljO, s_laO, q_get, q_p1, q_p2, s_n2i, s_n2r, s_n2l, s_n2n, q_pad, q_ar, s_ob, s_obO, q_nth, s_ri, s_riO, s_rb, s_rbO, s_rzO, s_rl, s_rlO, s_rq, s_rqO, s_ry, s_ryO, s_dn, s_tl, s_tn, s_ap, s_an, s_ci, s_cr, s_ni, s_n0, s_n1, q_ags, q_cat, List.contains_nil, List.contains_cons, Nat.reduceBEq, Bool.or_false, Bool.false_or, Bool.true_or, Bool.false_eq_true, ↓reduceIte, Nat.le_refl, Nat.zero_le, true_and, and_true, Nat.reduceLeDiff, Nat.reduceAdd, Nat.add_zero, Nat.zero_add, List.length_cons, List.length_nil, List.set_cons_zero, List.set_cons_succ, Nat.reduceLT, s_fi, s_fl, s_fo, s_fa, s_f0, s_f1, s_set, s_ss, lg_cmp_ge, lg_cmp_le, lg_cmp_gt, lg_cmp_lt, lg_cmp_eq, s_brT, s_brF, s_10, w_Cm_glyphBySegment, r_Cm_glyphBySegment, l_Cm_glyphBySegment_0, l_Cm_glyphBySegment_70, l_Cm_glyphBySegment_115, l_Cm_glyphBySegment_117, f_1_9, f_1_19, kb_16, kc_4, f_1_23, kc_2, ml_1_26, w_Ta_u16, kb_6, ki_1_70, ml_1_67, w_Cm_firstOf, kl_1_82, ml_1_34, w_Ta_holds, kc_0, hA', hT']
      rw [show (nI (U16 F cs cl P) = (0 : Int32)) = (U16 F cs cl P = 0) from propext (nI_eq (b := 0) (by omega) (by omega))]
      refine ⟨fun c2 => ?_, fun c2 => ?_⟩
      · rw [if_neg (fun z => z.2 c2)] at hq
        exact hq
      · rw [if_pos ⟨c1, c2⟩] at hq
        refine q_c0 (Nat.le_refl _) (Nat.le_refl _) ?_
        refine c_Ta_u16 hT hB hin (by omega) ?_
        simp -implicitDefEqProofs only [s_go, s_nil, s_cons, q_ins, s_op, s_i, s_j, s_a, s_v, s_li, s_lj, s_la, s_liO, s_ljO, s_laO, q_get, q_p1, q_p2, s_n2i, s_n2r, s_n2l, s_n2n, q_pad, q_ar, s_ob, s_obO, q_nth, s_ri, s_riO, s_rb, s_rbO, s_rzO, s_rl, s_rlO, s_rq, s_rqO, s_ry, s_ryO, s_dn, s_tl, s_tn, s_ap, s_an, s_ci, s_cr, s_ni, s_n0, s_n1, q_ags, q_cat, List.contains_nil, List.contains_cons, Nat.reduceBEq, Bool.or_false, Bool.false_or, Bool.true_or, Bool.false_eq_true, ↓reduceIte, Nat.le_refl, Nat.zero_le, true_and, and_true, Nat.reduceLeDiff, Nat.reduceAdd, Nat.add_zero, Nat.zero_add, List.length_cons, List.length_nil, List.set_cons_zero, List.set_cons_succ, Nat.reduceLT, s_fi, s_fl, s_fo, s_fa, s_f0, s_f1, s_set, s_ss, lg_cmp_ge, lg_cmp_le, lg_cmp_gt, lg_cmp_lt, lg_cmp_eq, s_brT, s_brF, s_10, w_Cm_glyphBySegment, r_Cm_glyphBySegment, l_Cm_glyphBySegment_0, l_Cm_glyphBySegment_70, l_Cm_glyphBySegment_115, l_Cm_glyphBySegment_117, f_1_9, f_1_19, kb_16, kc_4, f_1_23, kc_2, ml_1_26, w_Ta_u16, kb_6, ki_1_70, ml_1_67, w_Cm_firstOf, kl_1_82, ml_1_34, w_Ta_holds, kc_0, nI_add]
        rw [q_m16 (by omega)]
        exact hq
    · rw [q_z_f c1]
      rw [if_neg (fun z => c1 z.1)] at hq
      exact ⟨fun _ => hq, fun z => absurd rfl z⟩
end
section
/-! CharacterMap.glyphOf; Font: width, left -/
def SGr (F : Nat → Nat) (cs cl p S c : Nat) : Nat → Nat → Nat
  | _, 0 => 0
  | k, r + 1 => if s_la' F cs cl p k < c then SGr F cs cl p S c (k + 1) r else if c < s_fi' F cs cl p S k then 0 else SG1 F cs cl p S k c
set_option maxRecDepth 100000 in
set_option maxHeartbeats 4000000 in
theorem z_Cm_glyphBySegments {G : q_G} {l : Launch} {d a tc f row m n sz cs cl p S c : Nat} {og : Int32} {g : Nat → Int32} {F : Nat → Nat} {h : q_H} {Q : q_P} (hA : h a = some (e_Cm tc og (nI p) (nI S))) (hT : q_Ta h tc f cs cl) (hB : q_By h f row m g sz F) (hin : cs + cl ≤ sz) (hp : p ≤ 16384) (hS : S ≤ 32768) (hc : c ≤ 65535) :
    ∀ (r k : Nat), k + r = S → Q (some (.int (nI (SGr F cs cl p S c k r)))) h n → q_Z G l M_Cm_glyphBySegments (d + 4) 0 0 Q 2 [some (.ref a), some (.int (nI c)), some (.int (nI k))] [] h n 0 0 := by
  have hF := hB.2.2.2.2.2.2
  have hA' := hA
  unfold e_Cm at hA'
  intro r
  induction r with
  | zero =>
    intro k hk hq
    refine q_at o_Cm_glyphBySegments [2] 20 l_Cm_glyphBySegments_2 ?_
    simp -implicitDefEqProofs only [s_go, s_nil, s_cons, q_ins, s_op, s_i, s_j, s_a, s_v, s_li, s_lj, s_la, s_liO, s_ljO, s_laO, q_get, q_p1, q_p2, s_n2i, s_n2r, s_n2l, s_n2n, q_pad, q_ar, s_ob, s_obO, q_nth, s_ri, s_riO, s_rb, s_rbO, s_rzO, s_rl, s_rlO, s_rq, s_rqO, s_ry, s_ryO, s_dn, s_tl, s_tn, s_ap, s_an, s_ci, s_cr, s_ni, s_n0, s_n1, q_ags, q_cat, List.contains_nil, List.contains_cons, Nat.reduceBEq, Bool.or_false, Bool.false_or, Bool.true_or, Bool.false_eq_true, ↓reduceIte, Nat.le_refl, Nat.zero_le, true_and, and_true, Nat.reduceLeDiff, Nat.reduceAdd, Nat.add_zero, Nat.zero_add, List.length_cons, List.length_nil, List.set_cons_zero, List.set_cons_succ, Nat.reduceLT, s_fi, s_fl, s_fo, s_fa, s_f0, s_f1, s_set, s_ss, lg_cmp_ge, lg_cmp_le, lg_cmp_gt, lg_cmp_lt, lg_cmp_eq, s_brT, s_brF, s_10, w_Cm_glyphBySegments, r_Cm_glyphBySegments, l_Cm_glyphBySegments_0, l_Cm_glyphBySegments_2, l_Cm_glyphBySegments_32, l_Cm_glyphBySegments_38, l_Cm_glyphBySegments_39, l_Cm_glyphBySegments_45, kc_0, f_1_23, ml_1_64, w_Cm_lastOf, ml_1_67, w_Cm_firstOf, ml_1_79, w_Cm_glyphBySegment, kc_1, hA']
    exact ⟨fun _ => hq, fun c => absurd (nI_le (by omega) (by omega)) c⟩
  | succ r ih =>
    intro k hk hq
    have b1 := U16_lt hF cs cl (p + 14 + 2 * k)
    have b2 := U16_lt hF cs cl (p + 16 + 2 * S + 2 * k)
    have e : SGr F cs cl p S c k (r + 1) = if s_la' F cs cl p k < c then SGr F cs cl p S c (k + 1) r else if c < s_fi' F cs cl p S k then 0 else SG1 F cs cl p S k c := rfl
    rw [e] at hq
    refine q_at o_Cm_glyphBySegments [2] 20 l_Cm_glyphBySegments_2 ?_
    simp -implicitDefEqProofs only [s_go, s_nil, s_cons, q_ins, s_op, s_i, s_j, s_a, s_v, s_li, s_lj, s_la, s_liO, s_ljO, s_laO, q_get, q_p1, q_p2, s_n2i, s_n2r, s_n2l, s_n2n, q_pad, q_ar, s_ob, s_obO, q_nth, s_ri, s_riO, s_rb, s_rbO, s_rzO, s_rl, s_rlO, s_rq, s_rqO, s_ry, s_ryO, s_dn, s_tl, s_tn, s_ap, s_an, s_ci, s_cr, s_ni, s_n0, s_n1, q_ags, q_cat, List.contains_nil, List.contains_cons, Nat.reduceBEq, Bool.or_false, Bool.false_or, Bool.true_or, Bool.false_eq_true, ↓reduceIte, Nat.le_refl, Nat.zero_le, true_and, and_true, Nat.reduceLeDiff, Nat.reduceAdd, Nat.add_zero, Nat.zero_add, List.length_cons, List.length_nil, List.set_cons_zero, List.set_cons_succ, Nat.reduceLT, s_fi, s_fl, s_fo, s_fa, s_f0, s_f1, s_set, s_ss, lg_cmp_ge, lg_cmp_le, lg_cmp_gt, lg_cmp_lt, lg_cmp_eq, s_brT, s_brF, s_10, w_Cm_glyphBySegments, r_Cm_glyphBySegments, l_Cm_glyphBySegments_0, l_Cm_glyphBySegments_2, l_Cm_glyphBySegments_32, l_Cm_glyphBySegments_38, l_Cm_glyphBySegments_39, l_Cm_glyphBySegments_45, kc_0, f_1_23, ml_1_64, w_Cm_lastOf, ml_1_67, w_Cm_firstOf, ml_1_79, w_Cm_glyphBySegment, kc_1, hA']
    refine ⟨fun c => absurd ((nI_leI (by omega) (by omega)).mp c) (by omega), fun _ => ?_⟩
    refine q_c0 (Nat.le_refl _) (Nat.le_refl _) ?_
    refine c_Cm_lastOf hA hT hB hin hp (by omega) ?_
    simp -implicitDefEqProofs only [s_go, s_nil, s_cons, q_ins, s_op, s_i, s_j, s_a, s_v, s_li, s_lj, s_la, s_liO, s_ljO, s_laO, q_get, q_p1, q_p2, s_n2i, s_n2r, s_n2l, s_n2n, q_pad, q_ar, s_ob, s_obO, q_nth, s_ri, s_riO, s_rb, s_rbO, s_rzO, s_rl, s_rlO, s_rq, s_rqO, s_ry, s_ryO, s_dn, s_tl, s_tn, s_ap, s_an, s_ci, s_cr, s_ni, s_n0, s_n1, q_ags, q_cat, List.contains_nil, List.contains_cons, Nat.reduceBEq, Bool.or_false, Bool.false_or, Bool.true_or, Bool.false_eq_true, ↓reduceIte, Nat.le_refl, Nat.zero_le, true_and, and_true, Nat.reduceLeDiff, Nat.reduceAdd, Nat.add_zero, Nat.zero_add, List.length_cons, List.length_nil, List.set_cons_zero, List.set_cons_succ, Nat.reduceLT, s_fi, s_fl, s_fo, s_fa, s_f0, s_f1, s_set, s_ss, lg_cmp_ge, lg_cmp_le, lg_cmp_gt, lg_cmp_lt, lg_cmp_eq, s_brT, s_brF, s_10, w_Cm_glyphBySegments, r_Cm_glyphBySegments, l_Cm_glyphBySegments_0, l_Cm_glyphBySegments_2, l_Cm_glyphBySegments_32, l_Cm_glyphBySegments_38, l_Cm_glyphBySegments_39, l_Cm_glyphBySegments_45, kc_0, f_1_23, ml_1_64, w_Cm_lastOf, ml_1_67, w_Cm_firstOf, ml_1_79, w_Cm_glyphBySegment, kc_1, hA']
    rw [nI_ltI (by omega) (by omega)]
    refine ⟨fun y => ?_, fun y => ?_⟩
    · rw [if_pos (by exact y)] at hq
      rw [nI_1]
      exact ih (k + 1) (by omega) hq
    · rw [if_neg (by exact y)] at hq
      refine q_c0 (Nat.le_refl _) (Nat.le_refl _) ?_
      refine c_Cm_firstOf hA hT hB hin hp (by omega) (by omega) ?_
      simp -implicitDefEqProofs only [s_go, s_nil, s_cons, q_ins, s_op, s_i, s_j, s_a, s_v, s_li, s_lj, s_la, s_liO, s_ljO, s_laO, q_get, q_p1, q_p2, s_n2i, s_n2r, s_n2l, s_n2n, q_pad, q_ar, s_ob, s_obO, q_nth, s_ri, s_riO, s_rb, s_rbO, s_rzO, s_rl, s_rlO, s_rq, s_rqO, s_ry, s_ryO, s_dn, s_tl, s_tn, s_ap, s_an, s_ci, s_cr, s_ni, s_n0, s_n1, q_ags, q_cat, List.contains_nil, List.contains_cons, Nat.reduceBEq, Bool.or_false, Bool.false_or, Bool.true_or, Bool.false_eq_true, ↓reduceIte, Nat.le_refl, Nat.zero_le, true_and, and_true, Nat.reduceLeDiff, Nat.reduceAdd, Nat.add_zero, Nat.zero_add, List.length_cons, List.length_nil, List.set_cons_zero, List.set_cons_succ, Nat.reduceLT, s_fi, s_fl, s_fo, s_fa, s_f0, s_f1, s_set, s_ss, lg_cmp_ge, lg_cmp_le, lg_cmp_gt, lg_cmp_lt, lg_cmp_eq, s_brT, s_brF, s_10, w_Cm_glyphBySegments, r_Cm_glyphBySegments, l_Cm_glyphBySegments_0, l_Cm_glyphBySegments_2, l_Cm_glyphBySegments_32, l_Cm_glyphBySegments_38, l_Cm_glyphBySegments_39, l_Cm_glyphBySegments_45, kc_0, f_1_23, ml_1_64, w_Cm_lastOf, ml_1_67, w_Cm_firstOf, ml_1_79, w_Cm_glyphBySegment, kc_1, hA']
      rw [nI_leI (by omega) (by omega)]
      refine ⟨fun y1 => ?_, fun y1 => ?_⟩
      · rw [if_neg (by show ¬ c < U16 F cs cl (p + 16 + 2 * S + 2 * k); omega)] at hq
        refine q_c0 (Nat.le_refl _) (Nat.le_refl _) ?_
        refine c_Cm_glyphBySegment hA hT hB hin hp hS (by omega) hc y1 ?_
        simp -implicitDefEqProofs only [s_go, s_nil, s_cons, q_ins, s_op, s_i, s_j, s_a, s_v, s_li, s_lj, s_la, s_liO, s_ljO, s_laO, q_get, q_p1, q_p2, s_n2i, s_n2r, s_n2l, s_n2n, q_pad, q_ar, s_ob, s_obO, q_nth, s_ri, s_riO, s_rb, s_rbO, s_rzO, s_rl, s_rlO, s_rq, s_rqO, s_ry, s_ryO, s_dn, s_tl, s_tn, s_ap, s_an, s_ci, s_cr, s_ni, s_n0, s_n1, q_ags, q_cat, List.contains_nil, List.contains_cons, Nat.reduceBEq, Bool.or_false, Bool.false_or, Bool.true_or, Bool.false_eq_true, ↓reduceIte, Nat.le_refl, Nat.zero_le, true_and, and_true, Nat.reduceLeDiff, Nat.reduceAdd, Nat.add_zero, Nat.zero_add, List.length_cons, List.length_nil, List.set_cons_zero, List.set_cons_succ, Nat.reduceLT, s_fi, s_fl, s_fo, s_fa, s_f0, s_f1, s_set, s_ss, lg_cmp_ge, lg_cmp_le, lg_cmp_gt, lg_cmp_lt, lg_cmp_eq, s_brT, s_brF, s_10, w_Cm_glyphBySegments, r_Cm_glyphBySegments, l_Cm_glyphBySegments_0, l_Cm_glyphBySegments_2, l_Cm_glyphBySegments_32, l_Cm_glyphBySegments_38, l_Cm_glyphBySegments_39, l_Cm_glyphBySegments_45, kc_0, f_1_23, ml_1_64, w_Cm_lastOf, ml_1_67, w_Cm_firstOf, ml_1_79, w_Cm_glyphBySegment, kc_1]
        exact hq
      · rw [if_pos (by show c < U16 F cs cl (p + 16 + 2 * S + 2 * k); omega)] at hq
        exact hq
set_option maxRecDepth 100000 in
set_option maxHeartbeats 4000000 in
theorem c_Cm_glyphBySegments {G : q_G} {l : Launch} {d a tc f row m n sz cs cl p S c : Nat} {og : Int32} {g : Nat → Int32} {F : Nat → Nat} {h : q_H} {Q : q_P} (hA : h a = some (e_Cm tc og (nI p) (nI S))) (hT : q_Ta h tc f cs cl) (hB : q_By h f row m g sz F) (hin : cs + cl ≤ sz) (hp : p ≤ 16384) (hS : S ≤ 32768) (hc : c ≤ 65535) (hq : Q (some (.int (nI (SGr F cs cl p S c 0 S)))) h n) : q_Call G l M_Cm_glyphBySegments (d + 4) 0 0 [.ref a, .int (nI c)] h n Q := by
  refine q_in u_Cm_glyphBySegments (by rw [L_Cm_glyphBySegments]; exact Nat.le_of_ble_eq_true rfl) ?_
  rw [L_Cm_glyphBySegments]
  refine q_at o_Cm_glyphBySegments [2] 20 l_Cm_glyphBySegments_0 ?_
  simp -implicitDefEqProofs only [s_go, s_nil, s_cons, q_ins, s_op, s_i, s_j, s_a, s_v, s_li, s_lj, s_la, s_liO, s_ljO, s_laO, q_get, q_p1, q_p2, s_n2i, s_n2r, s_n2l, s_n2n, q_pad, q_ar, s_ob, s_obO, q_nth, s_ri, s_riO, s_rb, s_rbO, s_rzO, s_rl, s_rlO, s_rq, s_rqO, s_ry, s_ryO, s_dn, s_tl, s_tn, s_ap, s_an, s_ci, s_cr, s_ni, s_n0, s_n1, q_ags, q_cat, List.contains_nil, List.contains_cons, Nat.reduceBEq, Bool.or_false, Bool.false_or, Bool.true_or, Bool.false_eq_true, ↓reduceIte, Nat.le_refl, Nat.zero_le, true_and, and_true, Nat.reduceLeDiff, Nat.reduceAdd, Nat.add_zero, Nat.zero_add, List.length_cons, List.length_nil, List.set_cons_zero, List.set_cons_succ, Nat.reduceLT, s_fi, s_fl, s_fo, s_fa, s_f0, s_f1, s_set, s_ss, lg_cmp_ge, lg_cmp_le, lg_cmp_gt, lg_cmp_lt, lg_cmp_eq, s_brT, s_brF, s_10, w_Cm_glyphBySegments, r_Cm_glyphBySegments, l_Cm_glyphBySegments_0, l_Cm_glyphBySegments_2, l_Cm_glyphBySegments_32, l_Cm_glyphBySegments_38, l_Cm_glyphBySegments_39, l_Cm_glyphBySegments_45, kc_0, f_1_23, ml_1_64, w_Cm_lastOf, ml_1_67, w_Cm_firstOf, ml_1_79, w_Cm_glyphBySegment, kc_1]
  exact z_Cm_glyphBySegments hA hT hB hin hp hS hc S 0 (by omega) hq
theorem SG1_lt (F : Nat → Nat) (cs cl p S k c : Nat) : SG1 F cs cl p S k c < 65536 := by
  unfold SG1
  split
  · omega
  · split <;> omega
theorem SGr_lt (F : Nat → Nat) (cs cl p S c : Nat) : ∀ r k, SGr F cs cl p S c k r < 65536
  | 0, k => by unfold SGr; omega
  | r + 1, k => by
    unfold SGr
    split
    · exact SGr_lt F cs cl p S c r (k + 1)
    · split
      · omega
      · exact SG1_lt F cs cl p S k c
theorem GGr_lt (F : Nat → Nat) (cs cl p c : Nat) : ∀ r k, GGr F cs cl p c k r < 4294967296
  | 0, k => by unfold GGr; omega
  | r + 1, k => by
    unfold GGr
    split
    · omega
    · exact GGr_lt F cs cl p c r (k + 1)
/-- as the map has it: w: one of 3, 10; p its place, N its groups or segments -/
def GLY (F : Nat → Nat) (cs cl : Nat) (w : Bool) (p N c : Nat) : Nat := if w = true then GGr F cs cl p c 0 N else if c ≤ 65535 then SGr F cs cl p N c 0 N else 0
set_option maxRecDepth 100000 in
set_option maxHeartbeats 4000000 in
theorem c_Cm_glyphOf {G : q_G} {l : Launch} {d a tc f row m n sz cs cl p N c : Nat} {w : Bool} {g : Nat → Int32} {F : Nat → Nat} {h : q_H} {Q : q_P} (hA : h a = some (e_Cm tc (if w = true then 1 else 0) (nI p) (nI N))) (hT : q_Ta h tc f cs cl) (hB : q_By h f row m g sz F) (hin : cs + cl ≤ sz) (hp : p ≤ 16384) (hN : N ≤ 16384) (hc : c ≤ 1114111) (hq : Q (some (.long (lN (GLY F cs cl w p N c)))) h n) : q_Call G l M_Cm_glyphOf (d + 5) 0 0 [.ref a, .int (nI c)] h n Q := by
  have hA' := hA
  unfold e_Cm at hA'
  unfold GLY at hq
  refine q_in u_Cm_glyphOf (by rw [L_Cm_glyphOf]; exact Nat.le_of_ble_eq_true rfl) ?_
  rw [L_Cm_glyphOf]
  refine q_at o_Cm_glyphOf [] 20 l_Cm_glyphOf_0 ?_
  cases w with
  | true =>
    simp -implicitDefEqProofs only [s_go, s_nil, s_cons, q_ins, s_op, s_i, s_j, s_a, s_v, s_li, s_lj, s_la, s_liO, s_ljO, s_laO, q_get, q_p1, q_p2, s_n2i, s_n2r, s_n2l, s_n2n, q_pad, q_ar, s_ob, s_obO, q_nth, s_ri, s_riO, s_rb, s_rbO, s_rzO, s_rl, s_rlO, s_rq, s_rqO, s_ry, s_ryO, s_dn, s_tl, s_tn, s_ap, s_an, s_ci, s_cr, s_ni, s_n0, s_n1, q_ags, q_cat, List.contains_nil, List.contains_cons, Nat.reduceBEq, Bool.or_false, Bool.false_or, Bool.true_or, Bool.false_eq_true, ↓reduceIte, Nat.le_refl, Nat.zero_le, true_and, and_true, Nat.reduceLeDiff, Nat.reduceAdd, Nat.add_zero, Nat.zero_add, List.length_cons, List.length_nil, List.set_cons_zero, List.set_cons_succ, Nat.reduceLT, s_fi, s_fl, s_fo, s_fa, s_f0, s_f1, s_set, s_ss, lg_cmp_ge, lg_cmp_le, lg_cmp_gt, lg_cmp_lt, lg_cmp_eq, s_brT, s_brF, s_10, w_Cm_glyphOf, r_Cm_glyphOf, l_Cm_glyphOf_0, l_Cm_glyphOf_13, l_Cm_glyphOf_28, l_Cm_glyphOf_29, f_1_15, ml_1_71, w_Cm_glyphByGroups, ki_1_70, ml_1_74, w_Cm_glyphBySegments, kj_0, hA']
    refine q_c0 (Nat.le_refl _) (Nat.le_refl _) ?_
    refine c_Cm_glyphByGroups hA hT hB hin hp hN hc ?_
    simp -implicitDefEqProofs only [s_go, s_nil, s_cons, q_ins, s_op, s_i, s_j, s_a, s_v, s_li, s_lj, s_la, s_liO, s_ljO, s_laO, q_get, q_p1, q_p2, s_n2i, s_n2r, s_n2l, s_n2n, q_pad, q_ar, s_ob, s_obO, q_nth, s_ri, s_riO, s_rb, s_rbO, s_rzO, s_rl, s_rlO, s_rq, s_rqO, s_ry, s_ryO, s_dn, s_tl, s_tn, s_ap, s_an, s_ci, s_cr, s_ni, s_n0, s_n1, q_ags, q_cat, List.contains_nil, List.contains_cons, Nat.reduceBEq, Bool.or_false, Bool.false_or, Bool.true_or, Bool.false_eq_true, ↓reduceIte, Nat.le_refl, Nat.zero_le, true_and, and_true, Nat.reduceLeDiff, Nat.reduceAdd, Nat.add_zero, Nat.zero_add, List.length_cons, List.length_nil, List.set_cons_zero, List.set_cons_succ, Nat.reduceLT, s_fi, s_fl, s_fo, s_fa, s_f0, s_f1, s_set, s_ss, lg_cmp_ge, lg_cmp_le, lg_cmp_gt, lg_cmp_lt, lg_cmp_eq, s_brT, s_brF, s_10, w_Cm_glyphOf, r_Cm_glyphOf, l_Cm_glyphOf_0, l_Cm_glyphOf_13, l_Cm_glyphOf_28, l_Cm_glyphOf_29, f_1_15, ml_1_71, w_Cm_glyphByGroups, ki_1_70, ml_1_74, w_Cm_glyphBySegments, kj_0]
    exact hq
  | false =>
    simp -implicitDefEqProofs only [s_go, s_nil, s_cons, q_ins, s_op, s_i, s_j, s_a, s_v, s_li, s_lj, s_la, s_liO, s_ljO, s_laO, q_get, q_p1, q_p2, s_n2i, s_n2r, s_n2l, s_n2n, q_pad, q_ar, s_ob, s_obO, q_nth, s_ri, s_riO, s_rb, s_rbO, s_rzO, s_rl, s_rlO, s_rq, s_rqO, s_ry, s_ryO, s_dn, s_tl, s_tn, s_ap, s_an, s_ci, s_cr, s_ni, s_n0, s_n1, q_ags, q_cat, List.contains_nil, List.contains_cons, Nat.reduceBEq, Bool.or_false, Bool.false_or, Bool.true_or, Bool.false_eq_true, ↓reduceIte, Nat.le_refl, Nat.zero_le, true_and, and_true, Nat.reduceLeDiff, Nat.reduceAdd, Nat.add_zero, Nat.zero_add, List.length_cons, List.length_nil, List.set_cons_zero, List.set_cons_succ, Nat.reduceLT, s_fi, s_fl, s_fo, s_fa, s_f0, s_f1, s_set, s_ss, lg_cmp_ge, lg_cmp_le, lg_cmp_gt, lg_cmp_lt, lg_cmp_eq, s_brT, s_brF, s_10, w_Cm_glyphOf, r_Cm_glyphOf, l_Cm_glyphOf_0, l_Cm_glyphOf_13, l_Cm_glyphOf_28, l_Cm_glyphOf_29, f_1_15, ml_1_71, w_Cm_glyphByGroups, ki_1_70, ml_1_74, w_Cm_glyphBySegments, kj_0, hA']
    rw [show (65535 : Int32) = nI 65535 from rfl, nI_ltI (by omega) (by omega)]
    refine ⟨fun y => ?_, fun y => ?_⟩
    · rw [if_neg (by decide), if_neg (by omega)] at hq
      exact hq
    · rw [if_neg (by decide), if_pos (by omega)] at hq
      refine q_c0 (Nat.le_refl _) (Nat.le_refl _) ?_
      refine c_Cm_glyphBySegments hA hT hB hin hp (by omega) (by omega) ?_
      have := SGr_lt F cs cl p N c N 0
      simp -implicitDefEqProofs only [s_go, s_nil, s_cons, q_ins, s_op, s_i, s_j, s_a, s_v, s_li, s_lj, s_la, s_liO, s_ljO, s_laO, q_get, q_p1, q_p2, s_n2i, s_n2r, s_n2l, s_n2n, q_pad, q_ar, s_ob, s_obO, q_nth, s_ri, s_riO, s_rb, s_rbO, s_rzO, s_rl, s_rlO, s_rq, s_rqO, s_ry, s_ryO, s_dn, s_tl, s_tn, s_ap, s_an, s_ci, s_cr, s_ni, s_n0, s_n1, q_ags, q_cat, List.contains_nil, List.contains_cons, Nat.reduceBEq, Bool.or_false, Bool.false_or, Bool.true_or, Bool.false_eq_true, ↓reduceIte, Nat.le_refl, Nat.zero_le, true_and, and_true, Nat.reduceLeDiff, Nat.reduceAdd, Nat.add_zero, Nat.zero_add, List.length_cons, List.length_nil, List.set_cons_zero, List.set_cons_succ, Nat.reduceLT, s_fi, s_fl, s_fo, s_fa, s_f0, s_f1, s_set, s_ss, lg_cmp_ge, lg_cmp_le, lg_cmp_gt, lg_cmp_lt, lg_cmp_eq, s_brT, s_brF, s_10, w_Cm_glyphOf, r_Cm_glyphOf, l_Cm_glyphOf_0, l_Cm_glyphOf_13, l_Cm_glyphOf_28, l_Cm_glyphOf_29, f_1_15, ml_1_71, w_Cm_glyphByGroups, ki_1_70, ml_1_74, w_Cm_glyphBySegments, kj_0, nI_l (show SGr F cs cl p N c 0 N < 2 ^ 31 by omega)]
      exact hq
/-- WIDTH and LEFT of glyph k: hmtx (ms, ml), of H long ones -/
def WID (F : Nat → Nat) (ms ml H k : Nat) : Nat := U16 F ms ml (4 * (if k < H then k else H - 1))
def LEF (F : Nat → Nat) (ms ml H k : Nat) : Int := if k < H then S16 (U16 F ms ml (4 * k + 2)) else S16 (U16 F ms ml (4 * H + 2 * (k - H)))
set_option maxRecDepth 100000 in
set_option maxHeartbeats 4000000 in
theorem c_Fo_widthOf {G : q_G} {l : Launch} {d o row m n sz ms' ml H k : Nat} {em gl lp : Int32} {g : Nat → Int32} {F : Nat → Nat} {h : q_H} {Q : q_P} (hO : h o = some (e_Fo o em gl (nI H) lp)) (hB : q_By h (o + 1) row m g sz F) (hM : q_Ta h (o + 9) (o + 1) ms' ml) (b1 : ms' + ml ≤ sz) (hH : 1 ≤ H ∧ H ≤ 256) (hk : k ≤ 256) (hq : Q (some (.int (nI (WID F ms' ml H k)))) h n) : q_Call G l M_Fo_widthOf (d + 2) 0 0 [.ref o, .int (nI k)] h n Q := by
  have hO' := hO
  unfold e_Fo at hO'
  have hM' : h (o + 9) = some (.inr (6, [.ref (o + 1), .int (nI ms'), .int (nI ml)])) := hM
  unfold WID at hq
  refine q_in u_Fo_widthOf (by rw [L_Fo_widthOf]; exact Nat.le_of_ble_eq_true rfl) ?_
  rw [L_Fo_widthOf]
  refine q_at o_Fo_widthOf [] 20 l_Fo_widthOf_0 ?_
  simp -implicitDefEqProofs only [s_go, s_nil, s_cons, q_ins, s_op, s_i, s_j, s_a, s_v, s_li, s_lj, s_la, s_liO, s_ljO, s_laO, q_get, q_p1, q_p2, s_n2i, s_n2r, s_n2l, s_n2n, q_pad, q_ar, s_ob, s_obO, q_nth, s_ri, s_riO, s_rb, s_rbO, s_rzO, s_rl, s_rlO, s_rq, s_rqO, s_ry, s_ryO, s_dn, s_tl, s_tn, s_ap, s_an, s_ci, s_cr, s_ni, s_n0, s_n1, q_ags, q_cat, List.contains_nil, List.contains_cons, Nat.reduceBEq, Bool.or_false, Bool.false_or, Bool.true_or, Bool.false_eq_true, ↓reduceIte, Nat.le_refl, Nat.zero_le, true_and, and_true, Nat.reduceLeDiff, Nat.reduceAdd, Nat.add_zero, Nat.zero_add, List.length_cons, List.length_nil, List.set_cons_zero, List.set_cons_succ, Nat.reduceLT, s_fi, s_fl, s_fo, s_fa, s_f0, s_f1, s_set, s_ss, lg_cmp_ge, lg_cmp_le, lg_cmp_gt, lg_cmp_lt, lg_cmp_eq, s_brT, s_brF, s_10, w_Fo_widthOf, r_Fo_widthOf, l_Fo_widthOf_0, f_3_42, kc_4, f_3_146, kc_1, mm_3_152, q_ac_no_3_152, ml_3_90, w_Ta_u16, hO', hM']
  rw [show nI H - 1 = nI (H - 1) from pk_sub (b := 1) hH.1]
  have key : (if nI (H - 1) < nI k then nI (H - 1) else nI k) = nI (if k < H then k else H - 1) := by
    by_cases y : k < H
    · rw [if_pos y, if_neg (nI_nlt (by omega) (by omega))]
    · rw [if_neg y]
      by_cases y2 : H - 1 < k
      · rw [if_pos ((nI_ltI (by omega) (by omega)).mpr y2)]
      · omega
  rw [key, show (4 : Int32) * nI (if k < H then k else H - 1) = nI (4 * (if k < H then k else H - 1)) from pk_mul 4 _]
  have hb : (if k < H then k else H - 1) ≤ 256 := by split <;> omega
  refine q_c0 (Nat.le_refl _) (Nat.le_refl _) ?_
  refine c_Ta_u16 hM hB b1 (by omega) ?_
  simp -implicitDefEqProofs only [s_go, s_nil, s_cons, q_ins, s_op, s_i, s_j, s_a, s_v, s_li, s_lj, s_la, s_liO, s_ljO, s_laO, q_get, q_p1, q_p2, s_n2i, s_n2r, s_n2l, s_n2n, q_pad, q_ar, s_ob, s_obO, q_nth, s_ri, s_riO, s_rb, s_rbO, s_rzO, s_rl, s_rlO, s_rq, s_rqO, s_ry, s_ryO, s_dn, s_tl, s_tn, s_ap, s_an, s_ci, s_cr, s_ni, s_n0, s_n1, q_ags, q_cat, List.contains_nil, List.contains_cons, Nat.reduceBEq, Bool.or_false, Bool.false_or, Bool.true_or, Bool.false_eq_true, ↓reduceIte, Nat.le_refl, Nat.zero_le, true_and, and_true, Nat.reduceLeDiff, Nat.reduceAdd, Nat.add_zero, Nat.zero_add, List.length_cons, List.length_nil, List.set_cons_zero, List.set_cons_succ, Nat.reduceLT, s_fi, s_fl, s_fo, s_fa, s_f0, s_f1, s_set, s_ss, lg_cmp_ge, lg_cmp_le, lg_cmp_gt, lg_cmp_lt, lg_cmp_eq, s_brT, s_brF, s_10, w_Fo_widthOf, r_Fo_widthOf, l_Fo_widthOf_0, f_3_42, kc_4, f_3_146, kc_1, mm_3_152, q_ac_no_3_152, ml_3_90, w_Ta_u16]
  exact hq
set_option maxRecDepth 100000 in
set_option maxHeartbeats 4000000 in
theorem c_Fo_leftOf {G : q_G} {l : Launch} {d o row m n sz ms' ml H k : Nat} {em gl lp : Int32} {g : Nat → Int32} {F : Nat → Nat} {h : q_H} {Q : q_P} (hO : h o = some (e_Fo o em gl (nI H) lp)) (hB : q_By h (o + 1) row m g sz F) (hM : q_Ta h (o + 9) (o + 1) ms' ml) (b1 : ms' + ml ≤ sz) (hH : 1 ≤ H ∧ H ≤ 256) (hk : k ≤ 256) (hq : Q (some (.int (iI (LEF F ms' ml H k)))) h n) : q_Call G l M_Fo_leftOf (d + 3) 0 0 [.ref o, .int (nI k)] h n Q := by
  have hO' := hO
  unfold e_Fo at hO'
  have hM' : h (o + 9) = some (.inr (6, [.ref (o + 1), .int (nI ms'), .int (nI ml)])) := hM
  unfold LEF at hq
  refine q_in u_Fo_leftOf (by rw [L_Fo_leftOf]; exact Nat.le_of_ble_eq_true rfl) ?_
  rw [L_Fo_leftOf]
  refine q_at o_Fo_leftOf [] 20 l_Fo_leftOf_0 ?_
  simp -implicitDefEqProofs only [s_go, s_nil, s_cons, q_ins, s_op, s_i, s_j, s_a, s_v, s_li, s_lj, s_la, s_liO, s_ljO, s_laO, q_get, q_p1, q_p2, s_n2i, s_n2r, s_n2l, s_n2n, q_pad, q_ar, s_ob, s_obO, q_nth, s_ri, s_riO, s_rb, s_rbO, s_rzO, s_rl, s_rlO, s_rq, s_rqO, s_ry, s_ryO, s_dn, s_tl, s_tn, s_ap, s_an, s_ci, s_cr, s_ni, s_n0, s_n1, q_ags, q_cat, List.contains_nil, List.contains_cons, Nat.reduceBEq, Bool.or_false, Bool.false_or, Bool.true_or, Bool.false_eq_true, ↓reduceIte, Nat.le_refl, Nat.zero_le, true_and, and_true, Nat.reduceLeDiff, Nat.reduceAdd, Nat.add_zero, Nat.zero_add, List.length_cons, List.length_nil, List.set_cons_zero, List.set_cons_succ, Nat.reduceLT, s_fi, s_fl, s_fo, s_fa, s_f0, s_f1, s_set, s_ss, lg_cmp_ge, lg_cmp_le, lg_cmp_gt, lg_cmp_lt, lg_cmp_eq, s_brT, s_brF, s_10, w_Fo_leftOf, r_Fo_leftOf, l_Fo_leftOf_0, l_Fo_leftOf_23, l_Fo_leftOf_45, f_3_146, f_3_42, kc_4, kc_2, ml_3_158, w_Ta_s16, hO', hM']
  rw [nI_leI (by omega) (by omega)]
  refine ⟨fun y => ?_, fun y => ?_⟩
  · rw [if_neg (by omega)] at hq
    rw [show nI k - nI H = nI (k - H) from pk_sub y, show (4 : Int32) * nI H = nI (4 * H) from pk_mul 4 H, show (2 : Int32) * nI (k - H) = nI (2 * (k - H)) from pk_mul 2 _, nI_add]
    refine q_c0 (Nat.le_refl _) (Nat.le_refl _) ?_
    refine c_Ta_s16 hM hB b1 (by omega) ?_
    simp -implicitDefEqProofs only [s_go, s_nil, s_cons, q_ins, s_op, s_i, s_j, s_a, s_v, s_li, s_lj, s_la, s_liO, s_ljO, s_laO, q_get, q_p1, q_p2, s_n2i, s_n2r, s_n2l, s_n2n, q_pad, q_ar, s_ob, s_obO, q_nth, s_ri, s_riO, s_rb, s_rbO, s_rzO, s_rl, s_rlO, s_rq, s_rqO, s_ry, s_ryO, s_dn, s_tl, s_tn, s_ap, s_an, s_ci, s_cr, s_ni, s_n0, s_n1, q_ags, q_cat, List.contains_nil, List.contains_cons, Nat.reduceBEq, Bool.or_false, Bool.false_or, Bool.true_or, Bool.false_eq_true, ↓reduceIte, Nat.le_refl, Nat.zero_le, true_and, and_true, Nat.reduceLeDiff, Nat.reduceAdd, Nat.add_zero, Nat.zero_add, List.length_cons, List.length_nil, List.set_cons_zero, List.set_cons_succ, Nat.reduceLT, s_fi, s_fl, s_fo, s_fa, s_f0, s_f1, s_set, s_ss, lg_cmp_ge, lg_cmp_le, lg_cmp_gt, lg_cmp_lt, lg_cmp_eq, s_brT, s_brF, s_10, w_Fo_leftOf, r_Fo_leftOf, l_Fo_leftOf_0, l_Fo_leftOf_23, l_Fo_leftOf_45, f_3_146, f_3_42, kc_4, kc_2, ml_3_158, w_Ta_s16]
    exact hq
  · rw [if_pos (by omega)] at hq
    rw [show (4 : Int32) * nI k = nI (4 * k) from pk_mul 4 k, show nI (4 * k) + 2 = nI (4 * k + 2) from nI_add _ 2]
    refine q_c0 (Nat.le_refl _) (Nat.le_refl _) ?_
    refine c_Ta_s16 hM hB b1 (by omega) ?_
    simp -implicitDefEqProofs only [s_go, s_nil, s_cons, q_ins, s_op, s_i, s_j, s_a, s_v, s_li, s_lj, s_la, s_liO, s_ljO, s_laO, q_get, q_p1, q_p2, s_n2i, s_n2r, s_n2l, s_n2n, q_pad, q_ar, s_ob, s_obO, q_nth, s_ri, s_riO, s_rb, s_rbO, s_rzO, s_rl, s_rlO, s_rq, s_rqO, s_ry, s_ryO, s_dn, s_tl, s_tn, s_ap, s_an, s_ci, s_cr, s_ni, s_n0, s_n1, q_ags, q_cat, List.contains_nil, List.contains_cons, Nat.reduceBEq, Bool.or_false, Bool.false_or, Bool.true_or, Bool.false_eq_true, ↓reduceIte, Nat.le_refl, Nat.zero_le, true_and, and_true, Nat.reduceLeDiff, Nat.reduceAdd, Nat.add_zero, Nat.zero_add, List.length_cons, List.length_nil, List.set_cons_zero, List.set_cons_succ, Nat.reduceLT, s_fi, s_fl, s_fo, s_fa, s_f0, s_f1, s_set, s_ss, lg_cmp_ge, lg_cmp_le, lg_cmp_gt, lg_cmp_lt, lg_cmp_eq, s_brT, s_brF, s_10, w_Fo_leftOf, r_Fo_leftOf, l_Fo_leftOf_0, l_Fo_leftOf_23, l_Fo_leftOf_45, f_3_146, f_3_42, kc_4, kc_2, ml_3_158, w_Ta_s16]
    exact hq
end
