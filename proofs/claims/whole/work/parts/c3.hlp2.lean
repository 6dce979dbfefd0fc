/-! the helpers' code -/
def M_Hi : q_MT := (9, M_FO_put.2)
theorem w_Hi : M_Hi.1 = 9 := rfl
theorem r_Hi : q_r M_Hi = some .int := by decide +kernel
theorem s_v0 {G : q_G} {l : Launch} {Ex : State → Code → Prop} {y : MethodName} {cc : ByteArray} {lnn : Nat} {Ts : List Cond} {M : q_MT} {d mc ms : Nat} {Q : q_P} {B : q_B} {S : List Nat} {pc : Nat} : v_go G l Ex y cc lnn Ts M d mc ms Q B S 0 pc = q_V G l Ex y cc lnn Ts M d mc ms Q pc := rfl
def y_Hput : MethodName := ⟨"FontOutlinesLaw", "put", "(LFontOutlines;II[J)I"⟩
def t_Hput : List (Nat × Nat × Nat × Nat) := [(0, 10, 13, 13), (0, 10, 17, 15)]
def B_Hput : q_B := [(0, [(.aload_n ⟨3, q_l34⟩, 0, 0), (.iconst 0, 1, 0), (.aload_n ⟨0, q_l04⟩, 2, 0), (.iload_n ⟨1, q_l14⟩, 3, 0), (.iload_n ⟨2, q_l24⟩, 4, 0)], 5), (5, [(.invokevirtual 7, 5, 0), (.i2l, 8, 0), (.lastore, 9, 0), (.goto 11, 10, 21)], 13), (13, [(.astore 4, 13, 0), (.iconst 1, 15, 0), (.ireturn, 16, 0)], 17), (17, [(.astore 4, 17, 0), (.iconst 2, 19, 0), (.ireturn, 20, 0)], 21), (21, [(.iconst 0, 21, 0), (.ireturn, 22, 0)], 23)]
theorem o_Hput : v_okC method_3_code 5 B_Hput = true := by decide +kernel
theorem l_Hput_0 : q_bk B_Hput 0 = some ([(.aload_n ⟨3, q_l34⟩, 0, 0), (.iconst 0, 1, 0), (.aload_n ⟨0, q_l04⟩, 2, 0), (.iload_n ⟨1, q_l14⟩, 3, 0), (.iload_n ⟨2, q_l24⟩, 4, 0)], 5) := rfl
theorem l_Hput_5 : q_bk B_Hput 5 = some ([(.invokevirtual 7, 5, 0), (.i2l, 8, 0), (.lastore, 9, 0), (.goto 11, 10, 21)], 13) := rfl
theorem l_Hput_13 : q_bk B_Hput 13 = some ([(.astore 4, 13, 0), (.iconst 1, 15, 0), (.ireturn, 16, 0)], 17) := rfl
theorem l_Hput_17 : q_bk B_Hput 17 = some ([(.astore 4, 17, 0), (.iconst 2, 19, 0), (.ireturn, 20, 0)], 21) := rfl
theorem l_Hput_21 : q_bk B_Hput 21 = some ([(.iconst 0, 21, 0), (.ireturn, 22, 0)], 23) := rfl
def y_Hcut : MethodName := ⟨"FontOutlinesLaw", "cut", "(LFontOutlines;I[J)I"⟩
def t_Hcut : List (Nat × Nat × Nat × Nat) := [(0, 9, 12, 15)]
def B_Hcut : q_B := [(0, [(.aload_n ⟨2, q_l24⟩, 0, 0), (.iconst 0, 1, 0), (.aload_n ⟨0, q_l04⟩, 2, 0), (.iload_n ⟨1, q_l14⟩, 3, 0)], 4), (4, [(.invokevirtual 17, 4, 0), (.i2l, 7, 0), (.lastore, 8, 0), (.goto 6, 9, 15)], 12), (12, [(.astore_n ⟨3, q_l34⟩, 12, 0), (.iconst 1, 13, 0), (.ireturn, 14, 0)], 15), (15, [(.iconst 0, 15, 0), (.ireturn, 16, 0)], 17)]
theorem o_Hcut : v_okC method_4_code 4 B_Hcut = true := by decide +kernel
theorem l_Hcut_0 : q_bk B_Hcut 0 = some ([(.aload_n ⟨2, q_l24⟩, 0, 0), (.iconst 0, 1, 0), (.aload_n ⟨0, q_l04⟩, 2, 0), (.iload_n ⟨1, q_l14⟩, 3, 0)], 4) := rfl
theorem l_Hcut_4 : q_bk B_Hcut 4 = some ([(.invokevirtual 17, 4, 0), (.i2l, 7, 0), (.lastore, 8, 0), (.goto 6, 9, 15)], 12) := rfl
theorem l_Hcut_12 : q_bk B_Hcut 12 = some ([(.astore_n ⟨3, q_l34⟩, 12, 0), (.iconst 1, 13, 0), (.ireturn, 14, 0)], 15) := rfl
theorem l_Hcut_15 : q_bk B_Hcut 15 = some ([(.iconst 0, 15, 0), (.ireturn, 16, 0)], 17) := rfl
def y_Hglyph : MethodName := ⟨"FontOutlinesLaw", "glyph", "(LFontOutlines;I[J)I"⟩
def t_Hglyph : List (Nat × Nat × Nat × Nat) := [(0, 9, 12, 24), (0, 9, 15, 15)]
def B_Hglyph : q_B := [(0, [(.aload_n ⟨2, q_l24⟩, 0, 0), (.iconst 0, 1, 0), (.aload_n ⟨0, q_l04⟩, 2, 0), (.iload_n ⟨1, q_l14⟩, 3, 0)], 4), (4, [(.invokevirtual 21, 4, 0), (.i2l, 7, 0), (.lastore, 8, 0), (.goto 9, 9, 18)], 12), (12, [(.astore_n ⟨3, q_l34⟩, 12, 0), (.iconst 1, 13, 0), (.ireturn, 14, 0)], 15), (15, [(.astore_n ⟨3, q_l34⟩, 15, 0), (.iconst 2, 16, 0), (.ireturn, 17, 0)], 18), (18, [(.iconst 0, 18, 0), (.ireturn, 19, 0)], 20)]
theorem o_Hglyph : v_okC method_5_code 4 B_Hglyph = true := by decide +kernel
theorem l_Hglyph_0 : q_bk B_Hglyph 0 = some ([(.aload_n ⟨2, q_l24⟩, 0, 0), (.iconst 0, 1, 0), (.aload_n ⟨0, q_l04⟩, 2, 0), (.iload_n ⟨1, q_l14⟩, 3, 0)], 4) := rfl
theorem l_Hglyph_4 : q_bk B_Hglyph 4 = some ([(.invokevirtual 21, 4, 0), (.i2l, 7, 0), (.lastore, 8, 0), (.goto 9, 9, 18)], 12) := rfl
theorem l_Hglyph_12 : q_bk B_Hglyph 12 = some ([(.astore_n ⟨3, q_l34⟩, 12, 0), (.iconst 1, 13, 0), (.ireturn, 14, 0)], 15) := rfl
theorem l_Hglyph_15 : q_bk B_Hglyph 15 = some ([(.astore_n ⟨3, q_l34⟩, 15, 0), (.iconst 2, 16, 0), (.ireturn, 17, 0)], 18) := rfl
theorem l_Hglyph_18 : q_bk B_Hglyph 18 = some ([(.iconst 0, 18, 0), (.ireturn, 19, 0)], 20) := rfl
def y_Hmeasure : MethodName := ⟨"FontOutlinesLaw", "measure", "(LFontOutlines;II[J)I"⟩
def t_Hmeasure : List (Nat × Nat × Nat × Nat) := [(0, 10, 13, 24), (0, 10, 17, 13)]
def B_Hmeasure : q_B := [(0, [(.aload_n ⟨3, q_l34⟩, 0, 0), (.iconst 0, 1, 0), (.aload_n ⟨0, q_l04⟩, 2, 0), (.iload_n ⟨1, q_l14⟩, 3, 0), (.iload_n ⟨2, q_l24⟩, 4, 0)], 5), (5, [(.invokevirtual 26, 5, 0), (.i2l, 8, 0), (.lastore, 9, 0), (.goto 11, 10, 21)], 13), (13, [(.astore 4, 13, 0), (.iconst 1, 15, 0), (.ireturn, 16, 0)], 17), (17, [(.astore 4, 17, 0), (.iconst 2, 19, 0), (.ireturn, 20, 0)], 21), (21, [(.iconst 0, 21, 0), (.ireturn, 22, 0)], 23)]
theorem o_Hmeasure : v_okC method_6_code 5 B_Hmeasure = true := by decide +kernel
theorem l_Hmeasure_0 : q_bk B_Hmeasure 0 = some ([(.aload_n ⟨3, q_l34⟩, 0, 0), (.iconst 0, 1, 0), (.aload_n ⟨0, q_l04⟩, 2, 0), (.iload_n ⟨1, q_l14⟩, 3, 0), (.iload_n ⟨2, q_l24⟩, 4, 0)], 5) := rfl
theorem l_Hmeasure_5 : q_bk B_Hmeasure 5 = some ([(.invokevirtual 26, 5, 0), (.i2l, 8, 0), (.lastore, 9, 0), (.goto 11, 10, 21)], 13) := rfl
theorem l_Hmeasure_13 : q_bk B_Hmeasure 13 = some ([(.astore 4, 13, 0), (.iconst 1, 15, 0), (.ireturn, 16, 0)], 17) := rfl
theorem l_Hmeasure_17 : q_bk B_Hmeasure 17 = some ([(.astore 4, 17, 0), (.iconst 2, 19, 0), (.ireturn, 20, 0)], 21) := rfl
theorem l_Hmeasure_21 : q_bk B_Hmeasure 21 = some ([(.iconst 0, 21, 0), (.ireturn, 22, 0)], 23) := rfl
def y_Hpoint : MethodName := ⟨"FontOutlinesLaw", "point", "(LFontOutlines;III[J)I"⟩
def t_Hpoint : List (Nat × Nat × Nat × Nat) := [(0, 12, 15, 24), (0, 12, 19, 13)]
def B_Hpoint : q_B := [(0, [(.aload 4, 0, 0), (.iconst 0, 2, 0), (.aload_n ⟨0, q_l04⟩, 3, 0), (.iload_n ⟨1, q_l14⟩, 4, 0), (.iload_n ⟨2, q_l24⟩, 5, 0), (.iload_n ⟨3, q_l34⟩, 6, 0)], 7), (7, [(.invokevirtual 29, 7, 0), (.i2l, 10, 0), (.lastore, 11, 0), (.goto 11, 12, 23)], 15), (15, [(.astore 5, 15, 0), (.iconst 1, 17, 0), (.ireturn, 18, 0)], 19), (19, [(.astore 5, 19, 0), (.iconst 2, 21, 0), (.ireturn, 22, 0)], 23), (23, [(.iconst 0, 23, 0), (.ireturn, 24, 0)], 25)]
theorem o_Hpoint : v_okC method_7_code 6 B_Hpoint = true := by decide +kernel
theorem l_Hpoint_0 : q_bk B_Hpoint 0 = some ([(.aload 4, 0, 0), (.iconst 0, 2, 0), (.aload_n ⟨0, q_l04⟩, 3, 0), (.iload_n ⟨1, q_l14⟩, 4, 0), (.iload_n ⟨2, q_l24⟩, 5, 0), (.iload_n ⟨3, q_l34⟩, 6, 0)], 7) := rfl
theorem l_Hpoint_7 : q_bk B_Hpoint 7 = some ([(.invokevirtual 29, 7, 0), (.i2l, 10, 0), (.lastore, 11, 0), (.goto 11, 12, 23)], 15) := rfl
theorem l_Hpoint_15 : q_bk B_Hpoint 15 = some ([(.astore 5, 15, 0), (.iconst 1, 17, 0), (.ireturn, 18, 0)], 19) := rfl
theorem l_Hpoint_19 : q_bk B_Hpoint 19 = some ([(.astore 5, 19, 0), (.iconst 2, 21, 0), (.ireturn, 22, 0)], 23) := rfl
theorem l_Hpoint_23 : q_bk B_Hpoint 23 = some ([(.iconst 0, 23, 0), (.ireturn, 24, 0)], 25) := rfl
def y_Hfont : MethodName := ⟨"FontOutlinesLaw", "font", "(LFontOutlines;I[J)I"⟩
def t_Hfont : List (Nat × Nat × Nat × Nat) := [(0, 9, 12, 24), (0, 9, 15, 13)]
def B_Hfont : q_B := [(0, [(.aload_n ⟨2, q_l24⟩, 0, 0), (.iconst 0, 1, 0), (.aload_n ⟨0, q_l04⟩, 2, 0), (.iload_n ⟨1, q_l14⟩, 3, 0)], 4), (4, [(.invokevirtual 33, 4, 0), (.i2l, 7, 0), (.lastore, 8, 0), (.goto 9, 9, 18)], 12), (12, [(.astore_n ⟨3, q_l34⟩, 12, 0), (.iconst 1, 13, 0), (.ireturn, 14, 0)], 15), (15, [(.astore_n ⟨3, q_l34⟩, 15, 0), (.iconst 2, 16, 0), (.ireturn, 17, 0)], 18), (18, [(.iconst 0, 18, 0), (.ireturn, 19, 0)], 20)]
theorem o_Hfont : v_okC method_8_code 4 B_Hfont = true := by decide +kernel
theorem l_Hfont_0 : q_bk B_Hfont 0 = some ([(.aload_n ⟨2, q_l24⟩, 0, 0), (.iconst 0, 1, 0), (.aload_n ⟨0, q_l04⟩, 2, 0), (.iload_n ⟨1, q_l14⟩, 3, 0)], 4) := rfl
theorem l_Hfont_4 : q_bk B_Hfont 4 = some ([(.invokevirtual 33, 4, 0), (.i2l, 7, 0), (.lastore, 8, 0), (.goto 9, 9, 18)], 12) := rfl
theorem l_Hfont_12 : q_bk B_Hfont 12 = some ([(.astore_n ⟨3, q_l34⟩, 12, 0), (.iconst 1, 13, 0), (.ireturn, 14, 0)], 15) := rfl
theorem l_Hfont_15 : q_bk B_Hfont 15 = some ([(.astore_n ⟨3, q_l34⟩, 15, 0), (.iconst 2, 16, 0), (.ireturn, 17, 0)], 18) := rfl
theorem l_Hfont_18 : q_bk B_Hfont 18 = some ([(.iconst 0, 18, 0), (.ireturn, 19, 0)], 20) := rfl
