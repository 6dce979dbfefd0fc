theorem kb_m5 : (Int8.ofInt (-5)).toInt32 = (-5) := by decide +kernel
theorem kb_m4 : (Int8.ofInt (-4)).toInt32 = (-4) := by decide +kernel
theorem kb_m3 : (Int8.ofInt (-3)).toInt32 = (-3) := by decide +kernel
theorem kb_m2 : (Int8.ofInt (-2)).toInt32 = (-2) := by decide +kernel
theorem kb_6 : (Int8.ofInt 6).toInt32 = 6 := by decide +kernel
theorem kb_7 : (Int8.ofInt 7).toInt32 = 7 := by decide +kernel
theorem kb_8 : (Int8.ofInt 8).toInt32 = 8 := by decide +kernel
theorem kb_9 : (Int8.ofInt 9).toInt32 = 9 := by decide +kernel
theorem kb_10 : (Int8.ofInt 10).toInt32 = 10 := by decide +kernel
theorem kb_11 : (Int8.ofInt 11).toInt32 = 11 := by decide +kernel
theorem kb_12 : (Int8.ofInt 12).toInt32 = 12 := by decide +kernel
theorem kb_14 : (Int8.ofInt 14).toInt32 = 14 := by decide +kernel
theorem kb_16 : (Int8.ofInt 16).toInt32 = 16 := by decide +kernel
theorem kb_18 : (Int8.ofInt 18).toInt32 = 18 := by decide +kernel
theorem kb_20 : (Int8.ofInt 20).toInt32 = 20 := by decide +kernel
theorem kb_24 : (Int8.ofInt 24).toInt32 = 24 := by decide +kernel
theorem kb_32 : (Int8.ofInt 32).toInt32 = 32 := by decide +kernel
theorem kb_34 : (Int8.ofInt 34).toInt32 = 34 := by decide +kernel
theorem kb_36 : (Int8.ofInt 36).toInt32 = 36 := by decide +kernel
theorem kb_50 : (Int8.ofInt 50).toInt32 = 50 := by decide +kernel
theorem kb_54 : (Int8.ofInt 54).toInt32 = 54 := by decide +kernel
theorem kb_63 : (Int8.ofInt 63).toInt32 = 63 := by decide +kernel
theorem kb_64 : (Int8.ofInt 64).toInt32 = 64 := by decide +kernel
theorem ks_m16384 : (Int16.ofInt (-16384)).toInt32 = (-16384) := by decide +kernel
theorem ks_128 : (Int16.ofInt 128).toInt32 = 128 := by decide +kernel
theorem ks_200 : (Int16.ofInt 200).toInt32 = 200 := by decide +kernel
theorem ks_255 : (Int16.ofInt 255).toInt32 = 255 := by decide +kernel
theorem ks_256 : (Int16.ofInt 256).toInt32 = 256 := by decide +kernel
theorem ks_512 : (Int16.ofInt 512).toInt32 = 512 := by decide +kernel
theorem ks_2048 : (Int16.ofInt 2048).toInt32 = 2048 := by decide +kernel
theorem ks_3072 : (Int16.ofInt 3072).toInt32 = 3072 := by decide +kernel
theorem ks_16364 : (Int16.ofInt 16364).toInt32 = 16364 := by decide +kernel
theorem ks_16383 : (Int16.ofInt 16383).toInt32 = 16383 := by decide +kernel
theorem ks_16384 : (Int16.ofInt 16384).toInt32 = 16384 := by decide +kernel
theorem ks_32767 : (Int16.ofInt 32767).toInt32 = 32767 := by decide +kernel
theorem kc_m1 : Int32.ofInt (-1) = (-1) := by decide +kernel
theorem kc_0 : Int32.ofInt 0 = 0 := by decide +kernel
theorem kc_1 : Int32.ofInt 1 = 1 := by decide +kernel
theorem kc_2 : Int32.ofInt 2 = 2 := by decide +kernel
theorem kc_3 : Int32.ofInt 3 = 3 := by decide +kernel
theorem kc_4 : Int32.ofInt 4 = 4 := by decide +kernel
theorem kc_5 : Int32.ofInt 5 = 5 := by decide +kernel
theorem kj_0 : Int64.ofNat 0 = 0 := rfl
theorem kj_1 : Int64.ofNat 1 = 1 := rfl
theorem w_FO_init : M_FO_init.1 = 7 := rfl
theorem w_By_init : M_By_init.1 = 0 := rfl
theorem w_Fo_init : M_Fo_init.1 = 3 := rfl
theorem w_Ta_init : M_Ta_init.1 = 6 := rfl
theorem w_Cm_init : M_Cm_init.1 = 1 := rfl
theorem w_Ou_init : M_Ou_init.1 = 4 := rfl
theorem w_Cu_init : M_Cu_init.1 = 2 := rfl
theorem w_Pa_init : M_Pa_init.1 = 5 := rfl
theorem w_FO_feed : M_FO_feed.1 = 7 := rfl
theorem w_By_makeRoom : M_By_makeRoom.1 = 0 := rfl
theorem w_Ma_max : M_Ma_max.1 = 10 := rfl
theorem w_Ma_min : M_Ma_min.1 = 10 := rfl
theorem w_Ar_copyOf : M_Ar_copyOf.1 = 11 := rfl
theorem w_By_addWord : M_By_addWord.1 = 0 := rfl
theorem w_FO_at : M_FO_at.1 = 7 := rfl
theorem w_By_u8 : M_By_u8.1 = 0 := rfl
theorem w_FO_load : M_FO_load.1 = 7 := rfl
theorem w_Fo_takeFile : M_Fo_takeFile.1 = 3 := rfl
theorem w_By_copy : M_By_copy.1 = 0 := rfl
theorem w_Ta_lay : M_Ta_lay.1 = 6 := rfl
theorem w_Fo_firstWrong : M_Fo_firstWrong.1 = 3 := rfl
theorem w_Fo_isFile : M_Fo_isFile.1 = 3 := rfl
theorem w_Fo_tables : M_Fo_tables.1 = 3 := rfl
theorem w_Ta_u16 : M_Ta_u16.1 = 6 := rfl
theorem w_Ta_u8 : M_Ta_u8.1 = 6 := rfl
theorem w_Ta_u32 : M_Ta_u32.1 = 6 := rfl
theorem w_Ta_holds : M_Ta_holds.1 = 6 := rfl
theorem w_Fo_hasSums : M_Fo_hasSums.1 = 3 := rfl
theorem w_Fo_layByEntry : M_Fo_layByEntry.1 = 3 := rfl
theorem w_Fo_sum : M_Fo_sum.1 = 3 := rfl
theorem w_Fo_hasTables : M_Fo_hasTables.1 = 3 := rfl
theorem w_Fo_finds : M_Fo_finds.1 = 3 := rfl
theorem w_Fo_hasCounts : M_Fo_hasCounts.1 = 3 := rfl
theorem w_Fo_hasPlaces : M_Fo_hasPlaces.1 = 3 := rfl
theorem w_Fo_dataPlace : M_Fo_dataPlace.1 = 3 := rfl
theorem w_Cm_isFound : M_Cm_isFound.1 = 1 := rfl
theorem w_Cm_firstEntry : M_Cm_firstEntry.1 = 1 := rfl
theorem w_Cm_hasGroups : M_Cm_hasGroups.1 = 1 := rfl
theorem w_Cm_hasSegments : M_Cm_hasSegments.1 = 1 := rfl
theorem w_Cm_lastOf : M_Cm_lastOf.1 = 1 := rfl
theorem w_Cm_firstOf : M_Cm_firstOf.1 = 1 := rfl
theorem w_Ou_readsAll : M_Ou_readsAll.1 = 4 := rfl
theorem w_Ou_readGlyph : M_Ou_readGlyph.1 = 4 := rfl
theorem w_Ou_addsGlyph : M_Ou_addsGlyph.1 = 4 := rfl
theorem w_Cu_begin : M_Cu_begin.1 = 2 := rfl
theorem w_Cu_u16 : M_Cu_u16.1 = 2 := rfl
theorem w_Cu_pass : M_Cu_pass.1 = 2 := rfl
theorem w_Cu_follow : M_Cu_follow.1 = 2 := rfl
theorem w_Ou_addsParts : M_Ou_addsParts.1 = 4 := rfl
theorem w_Pa_isRead : M_Pa_isRead.1 = 5 := rfl
theorem w_Pa_number : M_Pa_number.1 = 5 := rfl
theorem w_Pa_has : M_Pa_has.1 = 5 := rfl
theorem w_Cu_u8 : M_Cu_u8.1 = 2 := rfl
theorem w_Pa_readFactors : M_Pa_readFactors.1 = 5 := rfl
theorem w_In_bitCount : M_In_bitCount.1 = 12 := rfl
theorem w_Ou_isLaid : M_Ou_isLaid.1 = 4 := rfl
theorem w_Pa_turnedX : M_Pa_turnedX.1 = 5 := rfl
theorem w_Pa_turnedY : M_Pa_turnedY.1 = 5 := rfl
theorem w_Ou_isCoordinate : M_Ou_isCoordinate.1 = 4 := rfl
theorem w_Ou_addsSimple : M_Ou_addsSimple.1 = 4 := rfl
theorem w_Ou_addsContours : M_Ou_addsContours.1 = 4 := rfl
theorem w_Ou_readsFlags : M_Ou_readsFlags.1 = 4 := rfl
theorem w_Ou_readsAxis : M_Ou_readsAxis.1 = 4 := rfl
theorem w_FO_put : M_FO_put.1 = 7 := rfl
theorem w_By_change : M_By_change.1 = 0 := rfl
theorem w_FO_cut : M_FO_cut.1 = 7 := rfl
theorem w_FO_glyph : M_FO_glyph.1 = 7 := rfl
theorem w_FO_needFont : M_FO_needFont.1 = 7 := rfl
theorem w_Cm_glyphOf : M_Cm_glyphOf.1 = 1 := rfl
theorem w_Cm_glyphByGroups : M_Cm_glyphByGroups.1 = 1 := rfl
theorem w_Cm_glyphBySegments : M_Cm_glyphBySegments.1 = 1 := rfl
theorem w_Cm_glyphBySegment : M_Cm_glyphBySegment.1 = 1 := rfl
theorem w_FO_measure : M_FO_measure.1 = 7 := rfl
theorem w_FO_isGlyph : M_FO_isGlyph.1 = 7 := rfl
theorem w_FO_show : M_FO_show.1 = 7 := rfl
theorem w_Fo_widthOf : M_Fo_widthOf.1 = 3 := rfl
theorem w_Fo_leftOf : M_Fo_leftOf.1 = 3 := rfl
theorem w_Ta_s16 : M_Ta_s16.1 = 6 := rfl
theorem w_Ou_least : M_Ou_least.1 = 4 := rfl
theorem w_Ou_greatest : M_Ou_greatest.1 = 4 := rfl
theorem w_FO_point : M_FO_point.1 = 7 := rfl
theorem w_FO_font : M_FO_font.1 = 7 := rfl
theorem w_Mo_init : M_Mo_init.1 = 8 := rfl
theorem w_Mo_thrown : M_Mo_thrown.1 = 8 := rfl
theorem w_Mo_feed : M_Mo_feed.1 = 8 := rfl
theorem w_Mo_put4 : M_Mo_put4.1 = 8 := rfl
theorem w_Mo_put : M_Mo_put.1 = 8 := rfl
theorem w_Mo_refused : M_Mo_refused.1 = 8 := rfl
theorem w_Mo_at : M_Mo_at.1 = 8 := rfl
theorem w_Mo_cut : M_Mo_cut.1 = 8 := rfl
theorem w_Mo_load : M_Mo_load.1 = 8 := rfl
theorem w_Mo_checkFile : M_Mo_checkFile.1 = 8 := rfl
theorem w_Mo_u32 : M_Mo_u32.1 = 8 := rfl
theorem w_Mo_u16 : M_Mo_u16.1 = 8 := rfl
theorem w_Mo_u8 : M_Mo_u8.1 = 8 := rfl
theorem w_Mo_need : M_Mo_need.1 = 8 := rfl
theorem w_Mo_tables : M_Mo_tables.1 = 8 := rfl
theorem w_Mo_checkSums : M_Mo_checkSums.1 = 8 := rfl
theorem w_Mo_sumOf : M_Mo_sumOf.1 = 8 := rfl
theorem w_Mo_findTables : M_Mo_findTables.1 = 8 := rfl
theorem w_Mo_checkForms : M_Mo_checkForms.1 = 8 := rfl
theorem w_Mo_t16 : M_Mo_t16.1 = 8 := rfl
theorem w_Mo_tableAt : M_Mo_tableAt.1 = 8 := rfl
theorem w_Mo_tableLength : M_Mo_tableLength.1 = 8 := rfl
theorem w_Mo_glyphCount : M_Mo_glyphCount.1 = 8 := rfl
theorem w_Mo_longCount : M_Mo_longCount.1 = 8 := rfl
theorem w_Mo_dataAt : M_Mo_dataAt.1 = 8 := rfl
theorem w_Mo_t32 : M_Mo_t32.1 = 8 := rfl
theorem w_Mo_checkMap : M_Mo_checkMap.1 = 8 := rfl
theorem w_Mo_hasMap : M_Mo_hasMap.1 = 8 := rfl
theorem w_Mo_mapAt : M_Mo_mapAt.1 = 8 := rfl
theorem w_Mo_checkGroups : M_Mo_checkGroups.1 = 8 := rfl
theorem w_Mo_checkSegments : M_Mo_checkSegments.1 = 8 := rfl
theorem w_Mo_checkGlyphs : M_Mo_checkGlyphs.1 = 8 := rfl
theorem w_Mo_readGlyph : M_Mo_readGlyph.1 = 8 := rfl
theorem w_Mo_begin : M_Mo_begin.1 = 8 := rfl
theorem w_Mo_s16 : M_Mo_s16.1 = 8 := rfl
theorem w_Mo_readSimple : M_Mo_readSimple.1 = 8 := rfl
theorem w_Mo_readFlags : M_Mo_readFlags.1 = 8 := rfl
theorem w_Mo_readSteps : M_Mo_readSteps.1 = 8 := rfl
theorem w_Mo_isCoordinate : M_Mo_isCoordinate.1 = 8 := rfl
theorem w_Mo_readPart : M_Mo_readPart.1 = 8 := rfl
theorem w_Mo_number : M_Mo_number.1 = 8 := rfl
theorem w_Mo_f16 : M_Mo_f16.1 = 8 := rfl
theorem w_Mo_join : M_Mo_join.1 = 8 := rfl
theorem w_Mo_turned : M_Mo_turned.1 = 8 := rfl
theorem w_Mo_glyph : M_Mo_glyph.1 = 8 := rfl
theorem w_Mo_groupGlyph : M_Mo_groupGlyph.1 = 8 := rfl
theorem w_Mo_segmentGlyph : M_Mo_segmentGlyph.1 = 8 := rfl
theorem w_Mo_measure : M_Mo_measure.1 = 8 := rfl
theorem w_Mo_isGlyph : M_Mo_isGlyph.1 = 8 := rfl
theorem w_Mo_lends : M_Mo_lends.1 = 8 := rfl
theorem w_Mo_width : M_Mo_width.1 = 8 := rfl
theorem w_Mo_left : M_Mo_left.1 = 8 := rfl
theorem w_Mo_bound : M_Mo_bound.1 = 8 := rfl
theorem w_Mo_point : M_Mo_point.1 = 8 := rfl
theorem w_Mo_font : M_Mo_font.1 = 8 := rfl
theorem q_oi_no_7_11 : q_oi 7 11 = false := rfl
theorem q_oi_no_7_18 : q_oi 7 18 = false := rfl
theorem q_oi_no_7_28 : q_oi 7 28 = false := rfl
theorem q_oi_no_3_11 : q_oi 3 11 = false := rfl
theorem q_oi_no_3_20 : q_oi 3 20 = false := rfl
theorem q_oi_no_3_53 : q_oi 3 53 = false := rfl
theorem q_oi_no_4_26 : q_oi 4 26 = false := rfl
theorem q_oi_no_4_39 : q_oi 4 39 = false := rfl
theorem q_oi_no_5_11 : q_oi 5 11 = false := rfl
theorem q_ac_no_0_19 : q_ac 0 19 = false := rfl
theorem q_ac_no_0_25 : q_ac 0 25 = false := rfl
theorem q_ac_no_0_28 : q_ac 0 28 = false := rfl
theorem q_mm_no_0_28 : q_mm 0 28 = none := rfl
theorem q_ac_no_11_304 : q_ac 11 304 = false := rfl
theorem q_ac_no_2_35 : q_ac 2 35 = false := rfl
theorem q_ac_no_5_47 : q_ac 5 47 = false := rfl
theorem q_mm_no_5_47 : q_mm 5 47 = none := rfl
theorem q_ac_no_3_152 : q_ac 3 152 = false := rfl
theorem q_ac_no_4_145 : q_ac 4 145 = false := rfl
theorem q_ac_no_4_150 : q_ac 4 150 = false := rfl
theorem q_ac_no_8_280 : q_ac 8 280 = false := rfl
theorem q_mm_no_8_280 : q_mm 8 280 = none := rfl
theorem q_ac_no_8_296 : q_ac 8 296 = false := rfl
theorem q_mm_no_8_296 : q_mm 8 296 = none := rfl
theorem ty_0_0 : q_ty 0 0 = (.array .byte) := rfl
theorem ty_0_1 : q_ty 0 1 = .int := rfl
theorem ty_1_0 : q_ty 1 0 = (.object "FontOutlines$Table") := rfl
theorem ty_1_1 : q_ty 1 1 = .boolean := rfl
theorem ty_1_2 : q_ty 1 2 = .int := rfl
theorem ty_1_3 : q_ty 1 3 = .int := rfl
theorem ty_2_0 : q_ty 2 0 = (.object "FontOutlines$Bytes") := rfl
theorem ty_2_1 : q_ty 2 1 = .int := rfl
theorem ty_2_2 : q_ty 2 2 = .int := rfl
theorem ty_2_3 : q_ty 2 3 = .boolean := rfl
theorem ty_3_0 : q_ty 3 0 = (.object "FontOutlines$Bytes") := rfl
theorem ty_3_1 : q_ty 3 1 = (.object "FontOutlines$Table") := rfl
theorem ty_3_2 : q_ty 3 2 = (.object "FontOutlines$Table") := rfl
theorem ty_3_3 : q_ty 3 3 = (.object "FontOutlines$Table") := rfl
theorem ty_3_4 : q_ty 3 4 = (.object "FontOutlines$Table") := rfl
theorem ty_3_5 : q_ty 3 5 = (.object "FontOutlines$Table") := rfl
theorem ty_3_6 : q_ty 3 6 = (.object "FontOutlines$Table") := rfl
theorem ty_3_7 : q_ty 3 7 = (.object "FontOutlines$Table") := rfl
theorem ty_3_8 : q_ty 3 8 = (.object "FontOutlines$Table") := rfl
theorem ty_3_9 : q_ty 3 9 = (.object "FontOutlines$Table") := rfl
theorem ty_3_10 : q_ty 3 10 = (.object "FontOutlines$CharacterMap") := rfl
theorem ty_3_11 : q_ty 3 11 = .int := rfl
theorem ty_3_12 : q_ty 3 12 = .int := rfl
theorem ty_3_13 : q_ty 3 13 = .int := rfl
theorem ty_3_14 : q_ty 3 14 = .boolean := rfl
theorem ty_4_0 : q_ty 4 0 = (.array .int) := rfl
theorem ty_4_1 : q_ty 4 1 = (.array .int) := rfl
theorem ty_4_2 : q_ty 4 2 = (.array .int) := rfl
theorem ty_4_3 : q_ty 4 3 = (.array .int) := rfl
theorem ty_4_4 : q_ty 4 4 = (.object "FontOutlines$Cursor") := rfl
theorem ty_4_5 : q_ty 4 5 = (.array (.object "FontOutlines$Part")) := rfl
theorem ty_4_6 : q_ty 4 6 = .int := rfl
theorem ty_4_7 : q_ty 4 7 = .int := rfl
theorem ty_4_8 : q_ty 4 8 = .int := rfl
theorem ty_4_9 : q_ty 4 9 = .int := rfl
theorem ty_5_0 : q_ty 5 0 = (.object "FontOutlines$Cursor") := rfl
theorem ty_5_1 : q_ty 5 1 = .int := rfl
theorem ty_5_2 : q_ty 5 2 = .int := rfl
theorem ty_5_3 : q_ty 5 3 = .int := rfl
theorem ty_5_4 : q_ty 5 4 = .int := rfl
theorem ty_5_5 : q_ty 5 5 = .int := rfl
theorem ty_5_6 : q_ty 5 6 = .int := rfl
theorem ty_5_7 : q_ty 5 7 = .int := rfl
theorem ty_5_8 : q_ty 5 8 = .int := rfl
theorem ty_6_0 : q_ty 6 0 = (.object "FontOutlines$Bytes") := rfl
theorem ty_6_1 : q_ty 6 1 = .int := rfl
theorem ty_6_2 : q_ty 6 2 = .int := rfl
theorem ty_7_0 : q_ty 7 0 = (.object "FontOutlines$Bytes") := rfl
theorem ty_7_1 : q_ty 7 1 = (.object "FontOutlines$Outline") := rfl
theorem ty_7_2 : q_ty 7 2 = (.object "FontOutlines$Font") := rfl
theorem ty_7_3 : q_ty 7 3 = (.object "FontOutlines$Font") := rfl
theorem ty_7_4 : q_ty 7 4 = .boolean := rfl
theorem ty_7_5 : q_ty 7 5 = .int := rfl
theorem ty_8_0 : q_ty 8 0 = .int := rfl
theorem ty_8_1 : q_ty 8 1 = .int := rfl
theorem ty_8_2 : q_ty 8 2 = (.array .int) := rfl
theorem ty_8_3 : q_ty 8 3 = (.array .int) := rfl
theorem ty_8_4 : q_ty 8 4 = .boolean := rfl
theorem ty_8_5 : q_ty 8 5 = .boolean := rfl
theorem ty_8_6 : q_ty 8 6 = .boolean := rfl
theorem ty_8_7 : q_ty 8 7 = .boolean := rfl
theorem ty_8_8 : q_ty 8 8 = (.array .int) := rfl
theorem ty_8_9 : q_ty 8 9 = (.array .int) := rfl
theorem ty_8_10 : q_ty 8 10 = (.array .int) := rfl
theorem ty_8_11 : q_ty 8 11 = (.array .int) := rfl
theorem ty_8_12 : q_ty 8 12 = (.array .int) := rfl
theorem ty_8_13 : q_ty 8 13 = (.array .boolean) := rfl
theorem ty_8_14 : q_ty 8 14 = (.array .int) := rfl
theorem ty_8_15 : q_ty 8 15 = (.array .int) := rfl
theorem ty_8_16 : q_ty 8 16 = (.array .int) := rfl
theorem ty_8_17 : q_ty 8 17 = (.array .int) := rfl
theorem ty_8_18 : q_ty 8 18 = (.array .int) := rfl
theorem ty_8_19 : q_ty 8 19 = (.array .int) := rfl
theorem ty_8_20 : q_ty 8 20 = (.array .int) := rfl
theorem ty_8_21 : q_ty 8 21 = (.array .int) := rfl
theorem ty_8_22 : q_ty 8 22 = (.array .boolean) := rfl
theorem ty_8_23 : q_ty 8 23 = (.array .int) := rfl
theorem ty_8_24 : q_ty 8 24 = (.array .int) := rfl
theorem ty_8_25 : q_ty 8 25 = (.array .int) := rfl
theorem ty_8_26 : q_ty 8 26 = (.array .int) := rfl
theorem ty_8_27 : q_ty 8 27 = (.array .int) := rfl
theorem ty_8_28 : q_ty 8 28 = (.array .int) := rfl
theorem ty_8_29 : q_ty 8 29 = (.array .int) := rfl
theorem ty_8_30 : q_ty 8 30 = .int := rfl
theorem ty_8_31 : q_ty 8 31 = .int := rfl
