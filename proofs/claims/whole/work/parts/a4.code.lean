def b_FO_put_0 : List (Instr × Nat × Nat) × Nat := ([(.iload_n ⟨1, q_l14⟩, 0, 0), (.ifCond .lt 14, 1, 15), (.iload_n ⟨1, q_l14⟩, 4, 0), (.aload_n ⟨0, q_l04⟩, 5, 0), (.getfield 12, 6, 0), (.getfield 43, 9, 0), (.if_icmp .lt 13, 12, 25)], 15)
def b_FO_put_25 : List (Instr × Nat × Nat) × Nat := ([(.iload_n ⟨2, q_l24⟩, 25, 0), (.ifCond .lt 10, 26, 36), (.iload_n ⟨2, q_l24⟩, 29, 0), (.sipush 255, 30, 0), (.if_icmp .le 13, 33, 46)], 36)
def b_FO_put_46 : List (Instr × Nat × Nat) × Nat := ([(.aload_n ⟨0, q_l04⟩, 46, 0), (.getfield 12, 47, 0), (.iload_n ⟨1, q_l14⟩, 50, 0), (.invokevirtual 65, 51, 0), (.istore_n ⟨3, q_l34⟩, 54, 0), (.aload_n ⟨0, q_l04⟩, 55, 0), (.getfield 12, 56, 0), (.iload_n ⟨1, q_l14⟩, 59, 0), (.iload_n ⟨2, q_l24⟩, 60, 0), (.invokevirtual 69, 61, 0), (.iload_n ⟨3, q_l34⟩, 64, 0), (.ireturn, 65, 0)], 66)
def B_FO_put : q_B := [(0, b_FO_put_0), (25, b_FO_put_25), (46, b_FO_put_46)]
theorem o_FO_put : q_okC M_FO_put B_FO_put = true := by decide +kernel
theorem u_FO_put : q_okM M_FO_put = true := by decide +kernel
theorem l_FO_put_0 : q_bk B_FO_put 0 = some ([(.iload_n ⟨1, q_l14⟩, 0, 0), (.ifCond .lt 14, 1, 15), (.iload_n ⟨1, q_l14⟩, 4, 0), (.aload_n ⟨0, q_l04⟩, 5, 0), (.getfield 12, 6, 0), (.getfield 43, 9, 0), (.if_icmp .lt 13, 12, 25)], 15) := rfl
theorem l_FO_put_25 : q_bk B_FO_put 25 = some ([(.iload_n ⟨2, q_l24⟩, 25, 0), (.ifCond .lt 10, 26, 36), (.iload_n ⟨2, q_l24⟩, 29, 0), (.sipush 255, 30, 0), (.if_icmp .le 13, 33, 46)], 36) := rfl
theorem l_FO_put_46 : q_bk B_FO_put 46 = some ([(.aload_n ⟨0, q_l04⟩, 46, 0), (.getfield 12, 47, 0), (.iload_n ⟨1, q_l14⟩, 50, 0), (.invokevirtual 65, 51, 0), (.istore_n ⟨3, q_l34⟩, 54, 0), (.aload_n ⟨0, q_l04⟩, 55, 0), (.getfield 12, 56, 0), (.iload_n ⟨1, q_l14⟩, 59, 0), (.iload_n ⟨2, q_l24⟩, 60, 0), (.invokevirtual 69, 61, 0), (.iload_n ⟨3, q_l34⟩, 64, 0), (.ireturn, 65, 0)], 66) := rfl
def b_FO_cut_0 : List (Instr × Nat × Nat) × Nat := ([(.iload_n ⟨1, q_l14⟩, 0, 0), (.ifCond .ge 13, 1, 14)], 4)
def b_FO_cut_14 : List (Instr × Nat × Nat) × Nat := ([(.iload_n ⟨1, q_l14⟩, 14, 0), (.aload_n ⟨0, q_l04⟩, 15, 0), (.getfield 12, 16, 0), (.getfield 43, 19, 0), (.if_icmp .ge 15, 22, 37), (.aload_n ⟨0, q_l04⟩, 25, 0), (.getfield 12, 26, 0), (.getfield 43, 29, 0), (.iload_n ⟨1, q_l14⟩, 32, 0), (.isub, 33, 0), (.goto 4, 34, 38)], 37)
def b_FO_cut_37 : List (Instr × Nat × Nat) × Nat := ([(.iconst 0, 37, 0)], 38)
def b_FO_cut_38 : List (Instr × Nat × Nat) × Nat := ([(.istore_n ⟨2, q_l24⟩, 38, 0), (.aload_n ⟨0, q_l04⟩, 39, 0), (.getfield 12, 40, 0), (.dup, 43, 0), (.getfield 43, 44, 0), (.iload_n ⟨2, q_l24⟩, 47, 0), (.isub, 48, 0), (.putfield 43, 49, 0), (.iload_n ⟨2, q_l24⟩, 52, 0), (.ireturn, 53, 0)], 54)
def B_FO_cut : q_B := [(0, b_FO_cut_0), (14, b_FO_cut_14), (37, b_FO_cut_37), (38, b_FO_cut_38)]
theorem o_FO_cut : q_okC M_FO_cut B_FO_cut = true := by decide +kernel
theorem u_FO_cut : q_okM M_FO_cut = true := by decide +kernel
theorem l_FO_cut_0 : q_bk B_FO_cut 0 = some ([(.iload_n ⟨1, q_l14⟩, 0, 0), (.ifCond .ge 13, 1, 14)], 4) := rfl
theorem l_FO_cut_14 : q_bk B_FO_cut 14 = some ([(.iload_n ⟨1, q_l14⟩, 14, 0), (.aload_n ⟨0, q_l04⟩, 15, 0), (.getfield 12, 16, 0), (.getfield 43, 19, 0), (.if_icmp .ge 15, 22, 37), (.aload_n ⟨0, q_l04⟩, 25, 0), (.getfield 12, 26, 0), (.getfield 43, 29, 0), (.iload_n ⟨1, q_l14⟩, 32, 0), (.isub, 33, 0), (.goto 4, 34, 38)], 37) := rfl
theorem l_FO_cut_37 : q_bk B_FO_cut 37 = some ([(.iconst 0, 37, 0)], 38) := rfl
theorem l_FO_cut_38 : q_bk B_FO_cut 38 = some ([(.istore_n ⟨2, q_l24⟩, 38, 0), (.aload_n ⟨0, q_l04⟩, 39, 0), (.getfield 12, 40, 0), (.dup, 43, 0), (.getfield 43, 44, 0), (.iload_n ⟨2, q_l24⟩, 47, 0), (.isub, 48, 0), (.putfield 43, 49, 0), (.iload_n ⟨2, q_l24⟩, 52, 0), (.ireturn, 53, 0)], 54) := rfl
def b_FO_glyph_0 : List (Instr × Nat × Nat) × Nat := ([(.aload_n ⟨0, q_l04⟩, 0, 0), (.invokevirtual 89, 1, 0), (.iload_n ⟨1, q_l14⟩, 4, 0), (.ifCond .lt 9, 5, 14), (.iload_n ⟨1, q_l14⟩, 8, 0), (.ldc 92, 9, 0), (.if_icmp .le 13, 11, 24)], 14)
def b_FO_glyph_24 : List (Instr × Nat × Nat) × Nat := ([(.aload_n ⟨0, q_l04⟩, 24, 0), (.getfield 19, 25, 0), (.getfield 95, 28, 0), (.iload_n ⟨1, q_l14⟩, 31, 0), (.invokevirtual 99, 32, 0), (.lstore_n ⟨2, q_l24⟩, 35, 0), (.lload_n ⟨2, q_l24⟩, 36, 0), (.aload_n ⟨0, q_l04⟩, 37, 0), (.getfield 19, 38, 0), (.getfield 86, 41, 0), (.i2l, 44, 0), (.lcmp, 45, 0), (.ifCond .ge 8, 46, 54), (.lload_n ⟨2, q_l24⟩, 49, 0), (.l2i, 50, 0), (.goto 4, 51, 55)], 54)
def b_FO_glyph_54 : List (Instr × Nat × Nat) × Nat := ([(.iconst 0, 54, 0)], 55)
def b_FO_glyph_55 : List (Instr × Nat × Nat) × Nat := ([(.ireturn, 55, 0)], 56)
def B_FO_glyph : q_B := [(0, b_FO_glyph_0), (24, b_FO_glyph_24), (54, b_FO_glyph_54), (55, b_FO_glyph_55)]
theorem o_FO_glyph : q_okC M_FO_glyph B_FO_glyph = true := by decide +kernel
theorem u_FO_glyph : q_okM M_FO_glyph = true := by decide +kernel
theorem l_FO_glyph_0 : q_bk B_FO_glyph 0 = some ([(.aload_n ⟨0, q_l04⟩, 0, 0), (.invokevirtual 89, 1, 0), (.iload_n ⟨1, q_l14⟩, 4, 0), (.ifCond .lt 9, 5, 14), (.iload_n ⟨1, q_l14⟩, 8, 0), (.ldc 92, 9, 0), (.if_icmp .le 13, 11, 24)], 14) := rfl
theorem l_FO_glyph_24 : q_bk B_FO_glyph 24 = some ([(.aload_n ⟨0, q_l04⟩, 24, 0), (.getfield 19, 25, 0), (.getfield 95, 28, 0), (.iload_n ⟨1, q_l14⟩, 31, 0), (.invokevirtual 99, 32, 0), (.lstore_n ⟨2, q_l24⟩, 35, 0), (.lload_n ⟨2, q_l24⟩, 36, 0), (.aload_n ⟨0, q_l04⟩, 37, 0), (.getfield 19, 38, 0), (.getfield 86, 41, 0), (.i2l, 44, 0), (.lcmp, 45, 0), (.ifCond .ge 8, 46, 54), (.lload_n ⟨2, q_l24⟩, 49, 0), (.l2i, 50, 0), (.goto 4, 51, 55)], 54) := rfl
theorem l_FO_glyph_54 : q_bk B_FO_glyph 54 = some ([(.iconst 0, 54, 0)], 55) := rfl
theorem l_FO_glyph_55 : q_bk B_FO_glyph 55 = some ([(.ireturn, 55, 0)], 56) := rfl
def b_FO_needFont_0 : List (Instr × Nat × Nat) × Nat := ([(.aload_n ⟨0, q_l04⟩, 0, 0), (.getfield 35, 1, 0), (.ifCond .ne 13, 4, 17)], 7)
def b_FO_needFont_17 : List (Instr × Nat × Nat) × Nat := ([(.return_, 17, 0)], 18)
def B_FO_needFont : q_B := [(0, b_FO_needFont_0), (17, b_FO_needFont_17)]
theorem o_FO_needFont : q_okC M_FO_needFont B_FO_needFont = true := by decide +kernel
theorem u_FO_needFont : q_okM M_FO_needFont = true := by decide +kernel
theorem l_FO_needFont_0 : q_bk B_FO_needFont 0 = some ([(.aload_n ⟨0, q_l04⟩, 0, 0), (.getfield 35, 1, 0), (.ifCond .ne 13, 4, 17)], 7) := rfl
theorem l_FO_needFont_17 : q_bk B_FO_needFont 17 = some ([(.return_, 17, 0)], 18) := rfl
def b_FO_measure_0 : List (Instr × Nat × Nat) × Nat := ([(.aload_n ⟨0, q_l04⟩, 0, 0), (.invokevirtual 89, 1, 0), (.aload_n ⟨0, q_l04⟩, 4, 0), (.iload_n ⟨1, q_l14⟩, 5, 0), (.invokevirtual 105, 6, 0), (.ifCond .eq 13, 9, 22), (.iload_n ⟨2, q_l24⟩, 12, 0), (.ifCond .lt 9, 13, 22), (.iload_n ⟨2, q_l24⟩, 16, 0), (.bipush 7, 17, 0), (.if_icmp .le 13, 19, 32)], 22)
def b_FO_measure_32 : List (Instr × Nat × Nat) × Nat := ([(.aload_n ⟨0, q_l04⟩, 32, 0), (.iload_n ⟨1, q_l14⟩, 33, 0), (.invokevirtual 111, 34, 0), (.iload_n ⟨2, q_l24⟩, 37, 0), (.tableswitch 133 0 6 #[42, 57, 72, 80, 88, 103, 118], 38, 0)], 80)
def b_FO_measure_80 : List (Instr × Nat × Nat) × Nat := ([(.aload_n ⟨0, q_l04⟩, 80, 0), (.getfield 19, 81, 0), (.aload_n ⟨0, q_l04⟩, 84, 0), (.getfield 31, 85, 0), (.getfield 114, 88, 0), (.invokevirtual 117, 91, 0), (.ireturn, 94, 0)], 95)
def b_FO_measure_95 : List (Instr × Nat × Nat) × Nat := ([(.aload_n ⟨0, q_l04⟩, 95, 0), (.getfield 19, 96, 0), (.aload_n ⟨0, q_l04⟩, 99, 0), (.getfield 31, 100, 0), (.getfield 114, 103, 0), (.invokevirtual 120, 106, 0), (.ireturn, 109, 0)], 110)
def b_FO_measure_110 : List (Instr × Nat × Nat) × Nat := ([(.aload_n ⟨0, q_l04⟩, 110, 0), (.getfield 31, 111, 0), (.getfield 123, 114, 0), (.ireturn, 117, 0)], 118)
def b_FO_measure_118 : List (Instr × Nat × Nat) × Nat := ([(.aload_n ⟨0, q_l04⟩, 118, 0), (.getfield 31, 119, 0), (.getfield 126, 122, 0), (.ireturn, 125, 0)], 126)
def b_FO_measure_126 : List (Instr × Nat × Nat) × Nat := ([(.aload_n ⟨0, q_l04⟩, 126, 0), (.getfield 31, 127, 0), (.aload_n ⟨0, q_l04⟩, 130, 0), (.getfield 31, 131, 0), (.getfield 129, 134, 0), (.invokevirtual 133, 137, 0), (.ireturn, 140, 0)], 141)
def b_FO_measure_141 : List (Instr × Nat × Nat) × Nat := ([(.aload_n ⟨0, q_l04⟩, 141, 0), (.getfield 31, 142, 0), (.aload_n ⟨0, q_l04⟩, 145, 0), (.getfield 31, 146, 0), (.getfield 137, 149, 0), (.invokevirtual 133, 152, 0), (.ireturn, 155, 0)], 156)
def b_FO_measure_156 : List (Instr × Nat × Nat) × Nat := ([(.aload_n ⟨0, q_l04⟩, 156, 0), (.getfield 31, 157, 0), (.aload_n ⟨0, q_l04⟩, 160, 0), (.getfield 31, 161, 0), (.getfield 129, 164, 0), (.invokevirtual 140, 167, 0), (.ireturn, 170, 0)], 171)
def b_FO_measure_171 : List (Instr × Nat × Nat) × Nat := ([(.aload_n ⟨0, q_l04⟩, 171, 0), (.getfield 31, 172, 0), (.aload_n ⟨0, q_l04⟩, 175, 0), (.getfield 31, 176, 0), (.getfield 137, 179, 0), (.invokevirtual 140, 182, 0), (.ireturn, 185, 0)], 186)
def B_FO_measure : q_B := [(0, b_FO_measure_0), (32, b_FO_measure_32), (80, b_FO_measure_80), (95, b_FO_measure_95), (110, b_FO_measure_110), (118, b_FO_measure_118), (126, b_FO_measure_126), (141, b_FO_measure_141), (156, b_FO_measure_156), (171, b_FO_measure_171)]
theorem o_FO_measure : q_okC M_FO_measure B_FO_measure = true := by decide +kernel
theorem u_FO_measure : q_okM M_FO_measure = true := by decide +kernel
theorem l_FO_measure_0 : q_bk B_FO_measure 0 = some ([(.aload_n ⟨0, q_l04⟩, 0, 0), (.invokevirtual 89, 1, 0), (.aload_n ⟨0, q_l04⟩, 4, 0), (.iload_n ⟨1, q_l14⟩, 5, 0), (.invokevirtual 105, 6, 0), (.ifCond .eq 13, 9, 22), (.iload_n ⟨2, q_l24⟩, 12, 0), (.ifCond .lt 9, 13, 22), (.iload_n ⟨2, q_l24⟩, 16, 0), (.bipush 7, 17, 0), (.if_icmp .le 13, 19, 32)], 22) := rfl
theorem l_FO_measure_32 : q_bk B_FO_measure 32 = some ([(.aload_n ⟨0, q_l04⟩, 32, 0), (.iload_n ⟨1, q_l14⟩, 33, 0), (.invokevirtual 111, 34, 0), (.iload_n ⟨2, q_l24⟩, 37, 0), (.tableswitch 133 0 6 #[42, 57, 72, 80, 88, 103, 118], 38, 0)], 80) := rfl
theorem l_FO_measure_80 : q_bk B_FO_measure 80 = some ([(.aload_n ⟨0, q_l04⟩, 80, 0), (.getfield 19, 81, 0), (.aload_n ⟨0, q_l04⟩, 84, 0), (.getfield 31, 85, 0), (.getfield 114, 88, 0), (.invokevirtual 117, 91, 0), (.ireturn, 94, 0)], 95) := rfl
theorem l_FO_measure_95 : q_bk B_FO_measure 95 = some ([(.aload_n ⟨0, q_l04⟩, 95, 0), (.getfield 19, 96, 0), (.aload_n ⟨0, q_l04⟩, 99, 0), (.getfield 31, 100, 0), (.getfield 114, 103, 0), (.invokevirtual 120, 106, 0), (.ireturn, 109, 0)], 110) := rfl
theorem l_FO_measure_110 : q_bk B_FO_measure 110 = some ([(.aload_n ⟨0, q_l04⟩, 110, 0), (.getfield 31, 111, 0), (.getfield 123, 114, 0), (.ireturn, 117, 0)], 118) := rfl
theorem l_FO_measure_118 : q_bk B_FO_measure 118 = some ([(.aload_n ⟨0, q_l04⟩, 118, 0), (.getfield 31, 119, 0), (.getfield 126, 122, 0), (.ireturn, 125, 0)], 126) := rfl
theorem l_FO_measure_126 : q_bk B_FO_measure 126 = some ([(.aload_n ⟨0, q_l04⟩, 126, 0), (.getfield 31, 127, 0), (.aload_n ⟨0, q_l04⟩, 130, 0), (.getfield 31, 131, 0), (.getfield 129, 134, 0), (.invokevirtual 133, 137, 0), (.ireturn, 140, 0)], 141) := rfl
theorem l_FO_measure_141 : q_bk B_FO_measure 141 = some ([(.aload_n ⟨0, q_l04⟩, 141, 0), (.getfield 31, 142, 0), (.aload_n ⟨0, q_l04⟩, 145, 0), (.getfield 31, 146, 0), (.getfield 137, 149, 0), (.invokevirtual 133, 152, 0), (.ireturn, 155, 0)], 156) := rfl
theorem l_FO_measure_156 : q_bk B_FO_measure 156 = some ([(.aload_n ⟨0, q_l04⟩, 156, 0), (.getfield 31, 157, 0), (.aload_n ⟨0, q_l04⟩, 160, 0), (.getfield 31, 161, 0), (.getfield 129, 164, 0), (.invokevirtual 140, 167, 0), (.ireturn, 170, 0)], 171) := rfl
theorem l_FO_measure_171 : q_bk B_FO_measure 171 = some ([(.aload_n ⟨0, q_l04⟩, 171, 0), (.getfield 31, 172, 0), (.aload_n ⟨0, q_l04⟩, 175, 0), (.getfield 31, 176, 0), (.getfield 137, 179, 0), (.invokevirtual 140, 182, 0), (.ireturn, 185, 0)], 186) := rfl
def b_FO_point_0 : List (Instr × Nat × Nat) × Nat := ([(.aload_n ⟨0, q_l04⟩, 0, 0), (.invokevirtual 89, 1, 0), (.aload_n ⟨0, q_l04⟩, 4, 0), (.iload_n ⟨1, q_l14⟩, 5, 0), (.invokevirtual 105, 6, 0), (.ifCond .eq 12, 9, 21), (.iload_n ⟨3, q_l34⟩, 12, 0), (.ifCond .lt 8, 13, 21), (.iload_n ⟨3, q_l34⟩, 16, 0), (.iconst 3, 17, 0), (.if_icmp .le 13, 18, 31)], 21)
def b_FO_point_31 : List (Instr × Nat × Nat) × Nat := ([(.aload_n ⟨0, q_l04⟩, 31, 0), (.iload_n ⟨1, q_l14⟩, 32, 0), (.invokevirtual 111, 33, 0), (.iload_n ⟨2, q_l24⟩, 36, 0), (.ifCond .lt 14, 37, 51), (.iload_n ⟨2, q_l24⟩, 40, 0), (.aload_n ⟨0, q_l04⟩, 41, 0), (.getfield 31, 42, 0), (.getfield 123, 45, 0), (.if_icmp .lt 13, 48, 61)], 51)
def b_FO_point_61 : List (Instr × Nat × Nat) × Nat := ([(.iload_n ⟨3, q_l34⟩, 61, 0), (.tableswitch 58 0 2 #[26, 36, 46], 62, 0)], 88)
def b_FO_point_88 : List (Instr × Nat × Nat) × Nat := ([(.aload_n ⟨0, q_l04⟩, 88, 0), (.getfield 31, 89, 0), (.getfield 129, 92, 0), (.iload_n ⟨2, q_l24⟩, 95, 0), (.iaload, 96, 0), (.ireturn, 97, 0)], 98)
def b_FO_point_98 : List (Instr × Nat × Nat) × Nat := ([(.aload_n ⟨0, q_l04⟩, 98, 0), (.getfield 31, 99, 0), (.getfield 137, 102, 0), (.iload_n ⟨2, q_l24⟩, 105, 0), (.iaload, 106, 0), (.ireturn, 107, 0)], 108)
def b_FO_point_108 : List (Instr × Nat × Nat) × Nat := ([(.aload_n ⟨0, q_l04⟩, 108, 0), (.getfield 31, 109, 0), (.getfield 147, 112, 0), (.iload_n ⟨2, q_l24⟩, 115, 0), (.iaload, 116, 0), (.iconst 1, 117, 0), (.iand, 118, 0), (.ireturn, 119, 0)], 120)
def b_FO_point_120 : List (Instr × Nat × Nat) × Nat := ([(.aload_n ⟨0, q_l04⟩, 120, 0), (.getfield 31, 121, 0), (.getfield 150, 124, 0), (.iload_n ⟨2, q_l24⟩, 127, 0), (.iaload, 128, 0), (.ireturn, 129, 0)], 130)
def B_FO_point : q_B := [(0, b_FO_point_0), (31, b_FO_point_31), (61, b_FO_point_61), (88, b_FO_point_88), (98, b_FO_point_98), (108, b_FO_point_108), (120, b_FO_point_120)]
theorem o_FO_point : q_okC M_FO_point B_FO_point = true := by decide +kernel
theorem u_FO_point : q_okM M_FO_point = true := by decide +kernel
theorem l_FO_point_0 : q_bk B_FO_point 0 = some ([(.aload_n ⟨0, q_l04⟩, 0, 0), (.invokevirtual 89, 1, 0), (.aload_n ⟨0, q_l04⟩, 4, 0), (.iload_n ⟨1, q_l14⟩, 5, 0), (.invokevirtual 105, 6, 0), (.ifCond .eq 12, 9, 21), (.iload_n ⟨3, q_l34⟩, 12, 0), (.ifCond .lt 8, 13, 21), (.iload_n ⟨3, q_l34⟩, 16, 0), (.iconst 3, 17, 0), (.if_icmp .le 13, 18, 31)], 21) := rfl
theorem l_FO_point_31 : q_bk B_FO_point 31 = some ([(.aload_n ⟨0, q_l04⟩, 31, 0), (.iload_n ⟨1, q_l14⟩, 32, 0), (.invokevirtual 111, 33, 0), (.iload_n ⟨2, q_l24⟩, 36, 0), (.ifCond .lt 14, 37, 51), (.iload_n ⟨2, q_l24⟩, 40, 0), (.aload_n ⟨0, q_l04⟩, 41, 0), (.getfield 31, 42, 0), (.getfield 123, 45, 0), (.if_icmp .lt 13, 48, 61)], 51) := rfl
theorem l_FO_point_61 : q_bk B_FO_point 61 = some ([(.iload_n ⟨3, q_l34⟩, 61, 0), (.tableswitch 58 0 2 #[26, 36, 46], 62, 0)], 88) := rfl
theorem l_FO_point_88 : q_bk B_FO_point 88 = some ([(.aload_n ⟨0, q_l04⟩, 88, 0), (.getfield 31, 89, 0), (.getfield 129, 92, 0), (.iload_n ⟨2, q_l24⟩, 95, 0), (.iaload, 96, 0), (.ireturn, 97, 0)], 98) := rfl
theorem l_FO_point_98 : q_bk B_FO_point 98 = some ([(.aload_n ⟨0, q_l04⟩, 98, 0), (.getfield 31, 99, 0), (.getfield 137, 102, 0), (.iload_n ⟨2, q_l24⟩, 105, 0), (.iaload, 106, 0), (.ireturn, 107, 0)], 108) := rfl
theorem l_FO_point_108 : q_bk B_FO_point 108 = some ([(.aload_n ⟨0, q_l04⟩, 108, 0), (.getfield 31, 109, 0), (.getfield 147, 112, 0), (.iload_n ⟨2, q_l24⟩, 115, 0), (.iaload, 116, 0), (.iconst 1, 117, 0), (.iand, 118, 0), (.ireturn, 119, 0)], 120) := rfl
theorem l_FO_point_120 : q_bk B_FO_point 120 = some ([(.aload_n ⟨0, q_l04⟩, 120, 0), (.getfield 31, 121, 0), (.getfield 150, 124, 0), (.iload_n ⟨2, q_l24⟩, 127, 0), (.iaload, 128, 0), (.ireturn, 129, 0)], 130) := rfl
def b_FO_font_0 : List (Instr × Nat × Nat) × Nat := ([(.aload_n ⟨0, q_l04⟩, 0, 0), (.invokevirtual 89, 1, 0), (.iload_n ⟨1, q_l14⟩, 4, 0), (.ifCond .lt 8, 5, 13), (.iload_n ⟨1, q_l14⟩, 8, 0), (.iconst 1, 9, 0), (.if_icmp .le 13, 10, 23)], 13)
def b_FO_font_23 : List (Instr × Nat × Nat) × Nat := ([(.iload_n ⟨1, q_l14⟩, 23, 0), (.ifCond .ne 11, 24, 35), (.aload_n ⟨0, q_l04⟩, 27, 0), (.getfield 19, 28, 0), (.getfield 155, 31, 0), (.ireturn, 34, 0)], 35)
def b_FO_font_35 : List (Instr × Nat × Nat) × Nat := ([(.aload_n ⟨0, q_l04⟩, 35, 0), (.getfield 19, 36, 0), (.getfield 95, 39, 0), (.getfield 158, 42, 0), (.ifCond .eq 7, 45, 52), (.iconst 1, 48, 0), (.goto 4, 49, 53)], 52)
def b_FO_font_52 : List (Instr × Nat × Nat) × Nat := ([(.iconst 0, 52, 0)], 53)
def b_FO_font_53 : List (Instr × Nat × Nat) × Nat := ([(.ireturn, 53, 0)], 54)
def B_FO_font : q_B := [(0, b_FO_font_0), (23, b_FO_font_23), (35, b_FO_font_35), (52, b_FO_font_52), (53, b_FO_font_53)]
theorem o_FO_font : q_okC M_FO_font B_FO_font = true := by decide +kernel
theorem u_FO_font : q_okM M_FO_font = true := by decide +kernel
theorem l_FO_font_0 : q_bk B_FO_font 0 = some ([(.aload_n ⟨0, q_l04⟩, 0, 0), (.invokevirtual 89, 1, 0), (.iload_n ⟨1, q_l14⟩, 4, 0), (.ifCond .lt 8, 5, 13), (.iload_n ⟨1, q_l14⟩, 8, 0), (.iconst 1, 9, 0), (.if_icmp .le 13, 10, 23)], 13) := rfl
theorem l_FO_font_23 : q_bk B_FO_font 23 = some ([(.iload_n ⟨1, q_l14⟩, 23, 0), (.ifCond .ne 11, 24, 35), (.aload_n ⟨0, q_l04⟩, 27, 0), (.getfield 19, 28, 0), (.getfield 155, 31, 0), (.ireturn, 34, 0)], 35) := rfl
theorem l_FO_font_35 : q_bk B_FO_font 35 = some ([(.aload_n ⟨0, q_l04⟩, 35, 0), (.getfield 19, 36, 0), (.getfield 95, 39, 0), (.getfield 158, 42, 0), (.ifCond .eq 7, 45, 52), (.iconst 1, 48, 0), (.goto 4, 49, 53)], 52) := rfl
theorem l_FO_font_52 : q_bk B_FO_font 52 = some ([(.iconst 0, 52, 0)], 53) := rfl
theorem l_FO_font_53 : q_bk B_FO_font 53 = some ([(.ireturn, 53, 0)], 54) := rfl
