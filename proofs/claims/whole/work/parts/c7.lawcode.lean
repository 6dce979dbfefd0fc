/-! the law's code, without the reads of its script and the calls of its helpers -/
def M_Hb : q_MT := (9, M_FO_isGlyph.2)
theorem w_Hb : M_Hb.1 = 9 := rfl
theorem r_Hb : q_r M_Hb = some .boolean := by decide +kernel
def b_Law_0 : List (Instr × Nat × Nat) × Nat := ([(.new 8, 0, 0), (.dup, 3, 0), (.invokespecial 36, 4, 0), (.astore_n ⟨1, q_l14⟩, 7, 0), (.new 37, 8, 0), (.dup, 11, 0), (.invokespecial 39, 12, 0), (.astore_n ⟨2, q_l24⟩, 15, 0), (.iconst 1, 16, 0), (.newarray .long, 17, 0), (.astore_n ⟨3, q_l34⟩, 19, 0), (.iconst 0, 20, 0), (.istore 4, 21, 0)], 23)
def b_Law_23 : List (Instr × Nat × Nat) × Nat := ([(.iload 4, 23, 0)], 25)
def b_Law_27 : List (Instr × Nat × Nat) × Nat := ([(.bipush 6, 27, 0), (.isub, 29, 0), (.if_icmp .gt 591, 30, 621)], 33)
def b_Law_37 : List (Instr × Nat × Nat) × Nat := ([(.bipush 15, 37, 0), (.iand, 39, 0), (.tableswitch 575 0 8 #[52, 125, 193, 218, 274, 315, 371, 439, 519], 40, 0)], 92)
def b_Law_92 : List (Instr × Nat × Nat) × Nat := ([(.aload_n ⟨1, q_l14⟩, 92, 0)], 93)
def b_Law_123 : List (Instr × Nat × Nat) × Nat := ([(.invokevirtual 40, 123, 0), (.aload_n ⟨2, q_l24⟩, 126, 0)], 127)
def b_Law_157 : List (Instr × Nat × Nat) × Nat := ([(.invokevirtual 44, 157, 0), (.if_icmp .eq 455, 160, 615), (.iconst 0, 163, 0), (.ireturn, 164, 0)], 165)
def b_Law_165 : List (Instr × Nat × Nat) × Nat := ([(.aload_n ⟨1, q_l14⟩, 165, 0)], 166)
def b_Law_178 : List (Instr × Nat × Nat) × Nat := ([(.aload_n ⟨3, q_l34⟩, 178, 0)], 179)
def b_Law_182 : List (Instr × Nat × Nat) × Nat := ([(.istore 5, 182, 0), (.aload_n ⟨2, q_l24⟩, 184, 0)], 185)
def b_Law_197 : List (Instr × Nat × Nat) × Nat := ([(.invokevirtual 50, 197, 0), (.istore 6, 200, 0), (.aload_n ⟨2, q_l24⟩, 202, 0), (.invokevirtual 51, 203, 0), (.iload 5, 206, 0), (.if_icmp .eq 5, 208, 213), (.iconst 0, 211, 0), (.ireturn, 212, 0)], 213)
def b_Law_213 : List (Instr × Nat × Nat) × Nat := ([(.iload 5, 213, 0), (.ifCond .ne 15, 215, 230), (.aload_n ⟨3, q_l34⟩, 218, 0), (.iconst 0, 219, 0), (.laload, 220, 0), (.iload 6, 221, 0), (.i2l, 223, 0), (.lcmp, 224, 0), (.ifCond .eq 5, 225, 230), (.iconst 0, 228, 0), (.ireturn, 229, 0)], 230)
def b_Law_230 : List (Instr × Nat × Nat) × Nat := ([(.goto 385, 230, 615)], 233)
def b_Law_233 : List (Instr × Nat × Nat) × Nat := ([(.aload_n ⟨1, q_l14⟩, 233, 0)], 234)
def b_Law_240 : List (Instr × Nat × Nat) × Nat := ([(.invokevirtual 55, 240, 0), (.aload_n ⟨2, q_l24⟩, 243, 0)], 244)
def b_Law_250 : List (Instr × Nat × Nat) × Nat := ([(.invokevirtual 58, 250, 0), (.if_icmp .eq 362, 253, 615), (.iconst 0, 256, 0), (.ireturn, 257, 0)], 258)
def b_Law_258 : List (Instr × Nat × Nat) × Nat := ([(.aload_n ⟨1, q_l14⟩, 258, 0)], 259)
def b_Law_265 : List (Instr × Nat × Nat) × Nat := ([(.aload_n ⟨3, q_l34⟩, 265, 0)], 266)
def b_Law_269 : List (Instr × Nat × Nat) × Nat := ([(.istore 5, 269, 0), (.aload_n ⟨2, q_l24⟩, 271, 0)], 272)
def b_Law_278 : List (Instr × Nat × Nat) × Nat := ([(.invokevirtual 62, 278, 0), (.istore 6, 281, 0), (.aload_n ⟨2, q_l24⟩, 283, 0), (.invokevirtual 51, 284, 0), (.iload 5, 287, 0), (.if_icmp .eq 5, 289, 294), (.iconst 0, 292, 0), (.ireturn, 293, 0)], 294)
def b_Law_294 : List (Instr × Nat × Nat) × Nat := ([(.iload 5, 294, 0), (.ifCond .ne 15, 296, 311), (.aload_n ⟨3, q_l34⟩, 299, 0), (.iconst 0, 300, 0), (.laload, 301, 0), (.iload 6, 302, 0), (.i2l, 304, 0), (.lcmp, 305, 0), (.ifCond .eq 5, 306, 311), (.iconst 0, 309, 0), (.ireturn, 310, 0)], 311)
def b_Law_311 : List (Instr × Nat × Nat) × Nat := ([(.goto 304, 311, 615)], 314)
def b_Law_314 : List (Instr × Nat × Nat) × Nat := ([(.aload_n ⟨1, q_l14⟩, 314, 0)], 315)
def b_Law_321 : List (Instr × Nat × Nat) × Nat := ([(.ifCond .eq 7, 321, 328), (.iconst 1, 324, 0), (.goto 4, 325, 329)], 328)
def b_Law_328 : List (Instr × Nat × Nat) × Nat := ([(.iconst 0, 328, 0)], 329)
def b_Law_329 : List (Instr × Nat × Nat) × Nat := ([(.invokevirtual 63, 329, 0), (.aload_n ⟨2, q_l24⟩, 332, 0)], 333)
def b_Law_339 : List (Instr × Nat × Nat) × Nat := ([(.ifCond .eq 7, 339, 346), (.iconst 1, 342, 0), (.goto 4, 343, 347)], 346)
def b_Law_346 : List (Instr × Nat × Nat) × Nat := ([(.iconst 0, 346, 0)], 347)
def b_Law_347 : List (Instr × Nat × Nat) × Nat := ([(.invokevirtual 67, 347, 0), (.if_icmp .eq 265, 350, 615), (.iconst 0, 353, 0), (.ireturn, 354, 0)], 355)
def b_Law_355 : List (Instr × Nat × Nat) × Nat := ([(.aload_n ⟨1, q_l14⟩, 355, 0)], 356)
def b_Law_362 : List (Instr × Nat × Nat) × Nat := ([(.aload_n ⟨3, q_l34⟩, 362, 0)], 363)
def b_Law_366 : List (Instr × Nat × Nat) × Nat := ([(.istore 5, 366, 0), (.aload_n ⟨2, q_l24⟩, 368, 0)], 369)
def b_Law_375 : List (Instr × Nat × Nat) × Nat := ([(.invokevirtual 70, 375, 0), (.istore 6, 378, 0), (.aload_n ⟨2, q_l24⟩, 380, 0), (.invokevirtual 51, 381, 0), (.iload 5, 384, 0), (.if_icmp .eq 5, 386, 391), (.iconst 0, 389, 0), (.ireturn, 390, 0)], 391)
def b_Law_391 : List (Instr × Nat × Nat) × Nat := ([(.iload 5, 391, 0), (.ifCond .ne 15, 393, 408), (.aload_n ⟨3, q_l34⟩, 396, 0), (.iconst 0, 397, 0), (.laload, 398, 0), (.iload 6, 399, 0), (.i2l, 401, 0), (.lcmp, 402, 0), (.ifCond .eq 5, 403, 408), (.iconst 0, 406, 0), (.ireturn, 407, 0)], 408)
def b_Law_408 : List (Instr × Nat × Nat) × Nat := ([(.goto 207, 408, 615)], 411)
def b_Law_411 : List (Instr × Nat × Nat) × Nat := ([(.aload_n ⟨1, q_l14⟩, 411, 0)], 412)
def b_Law_424 : List (Instr × Nat × Nat) × Nat := ([(.aload_n ⟨3, q_l34⟩, 424, 0)], 425)
def b_Law_428 : List (Instr × Nat × Nat) × Nat := ([(.istore 5, 428, 0), (.aload_n ⟨2, q_l24⟩, 430, 0)], 431)
def b_Law_443 : List (Instr × Nat × Nat) × Nat := ([(.invokevirtual 73, 443, 0), (.istore 6, 446, 0), (.aload_n ⟨2, q_l24⟩, 448, 0), (.invokevirtual 51, 449, 0), (.iload 5, 452, 0), (.if_icmp .eq 5, 454, 459), (.iconst 0, 457, 0), (.ireturn, 458, 0)], 459)
def b_Law_459 : List (Instr × Nat × Nat) × Nat := ([(.iload 5, 459, 0), (.ifCond .ne 15, 461, 476), (.aload_n ⟨3, q_l34⟩, 464, 0), (.iconst 0, 465, 0), (.laload, 466, 0), (.iload 6, 467, 0), (.i2l, 469, 0), (.lcmp, 470, 0), (.ifCond .eq 5, 471, 476), (.iconst 0, 474, 0), (.ireturn, 475, 0)], 476)
def b_Law_476 : List (Instr × Nat × Nat) × Nat := ([(.goto 139, 476, 615)], 479)
def b_Law_479 : List (Instr × Nat × Nat) × Nat := ([(.aload_n ⟨1, q_l14⟩, 479, 0)], 480)
def b_Law_498 : List (Instr × Nat × Nat) × Nat := ([(.aload_n ⟨3, q_l34⟩, 498, 0)], 499)
def b_Law_502 : List (Instr × Nat × Nat) × Nat := ([(.istore 5, 502, 0), (.aload_n ⟨2, q_l24⟩, 504, 0)], 505)
def b_Law_523 : List (Instr × Nat × Nat) × Nat := ([(.invokevirtual 77, 523, 0), (.istore 6, 526, 0), (.aload_n ⟨2, q_l24⟩, 528, 0), (.invokevirtual 51, 529, 0), (.iload 5, 532, 0), (.if_icmp .eq 5, 534, 539), (.iconst 0, 537, 0), (.ireturn, 538, 0)], 539)
def b_Law_539 : List (Instr × Nat × Nat) × Nat := ([(.iload 5, 539, 0), (.ifCond .ne 15, 541, 556), (.aload_n ⟨3, q_l34⟩, 544, 0), (.iconst 0, 545, 0), (.laload, 546, 0), (.iload 6, 547, 0), (.i2l, 549, 0), (.lcmp, 550, 0), (.ifCond .eq 5, 551, 556), (.iconst 0, 554, 0), (.ireturn, 555, 0)], 556)
def b_Law_556 : List (Instr × Nat × Nat) × Nat := ([(.goto 59, 556, 615)], 559)
def b_Law_559 : List (Instr × Nat × Nat) × Nat := ([(.aload_n ⟨1, q_l14⟩, 559, 0)], 560)
def b_Law_566 : List (Instr × Nat × Nat) × Nat := ([(.aload_n ⟨3, q_l34⟩, 566, 0)], 567)
def b_Law_570 : List (Instr × Nat × Nat) × Nat := ([(.istore 5, 570, 0), (.aload_n ⟨2, q_l24⟩, 572, 0)], 573)
def b_Law_579 : List (Instr × Nat × Nat) × Nat := ([(.invokevirtual 80, 579, 0), (.istore 6, 582, 0), (.aload_n ⟨2, q_l24⟩, 584, 0), (.invokevirtual 51, 585, 0), (.iload 5, 588, 0), (.if_icmp .eq 5, 590, 595), (.iconst 0, 593, 0), (.ireturn, 594, 0)], 595)
def b_Law_595 : List (Instr × Nat × Nat) × Nat := ([(.iload 5, 595, 0), (.ifCond .ne 15, 597, 612), (.aload_n ⟨3, q_l34⟩, 600, 0), (.iconst 0, 601, 0), (.laload, 602, 0), (.iload 6, 603, 0), (.i2l, 605, 0), (.lcmp, 606, 0), (.ifCond .eq 5, 607, 612), (.iconst 0, 610, 0), (.ireturn, 611, 0)], 612)
def b_Law_612 : List (Instr × Nat × Nat) × Nat := ([(.goto 3, 612, 615)], 615)
def b_Law_615 : List (Instr × Nat × Nat) × Nat := ([(.iinc 4 6, 615, 0), (.goto (-595), 618, 23)], 621)
def b_Law_621 : List (Instr × Nat × Nat) × Nat := ([(.iconst 1, 621, 0), (.ireturn, 622, 0)], 623)
def B_Law : q_B := [(0, b_Law_0), (23, b_Law_23), (27, b_Law_27), (37, b_Law_37), (92, b_Law_92), (123, b_Law_123), (157, b_Law_157), (165, b_Law_165), (178, b_Law_178), (182, b_Law_182), (197, b_Law_197), (213, b_Law_213), (230, b_Law_230), (233, b_Law_233), (240, b_Law_240), (250, b_Law_250), (258, b_Law_258), (265, b_Law_265), (269, b_Law_269), (278, b_Law_278), (294, b_Law_294), (311, b_Law_311), (314, b_Law_314), (321, b_Law_321), (328, b_Law_328), (329, b_Law_329), (339, b_Law_339), (346, b_Law_346), (347, b_Law_347), (355, b_Law_355), (362, b_Law_362), (366, b_Law_366), (375, b_Law_375), (391, b_Law_391), (408, b_Law_408), (411, b_Law_411), (424, b_Law_424), (428, b_Law_428), (443, b_Law_443), (459, b_Law_459), (476, b_Law_476), (479, b_Law_479), (498, b_Law_498), (502, b_Law_502), (523, b_Law_523), (539, b_Law_539), (556, b_Law_556), (559, b_Law_559), (566, b_Law_566), (570, b_Law_570), (579, b_Law_579), (595, b_Law_595), (612, b_Law_612), (615, b_Law_615), (621, b_Law_621)]
theorem o_Law : v_okC code 7 B_Law = true := by decide +kernel
theorem l_Law_0 : q_bk B_Law 0 = some ([(.new 8, 0, 0), (.dup, 3, 0), (.invokespecial 36, 4, 0), (.astore_n ⟨1, q_l14⟩, 7, 0), (.new 37, 8, 0), (.dup, 11, 0), (.invokespecial 39, 12, 0), (.astore_n ⟨2, q_l24⟩, 15, 0), (.iconst 1, 16, 0), (.newarray .long, 17, 0), (.astore_n ⟨3, q_l34⟩, 19, 0), (.iconst 0, 20, 0), (.istore 4, 21, 0)], 23) := rfl
theorem l_Law_23 : q_bk B_Law 23 = some ([(.iload 4, 23, 0)], 25) := rfl
theorem l_Law_27 : q_bk B_Law 27 = some ([(.bipush 6, 27, 0), (.isub, 29, 0), (.if_icmp .gt 591, 30, 621)], 33) := rfl
theorem l_Law_37 : q_bk B_Law 37 = some ([(.bipush 15, 37, 0), (.iand, 39, 0), (.tableswitch 575 0 8 #[52, 125, 193, 218, 274, 315, 371, 439, 519], 40, 0)], 92) := rfl
theorem l_Law_92 : q_bk B_Law 92 = some ([(.aload_n ⟨1, q_l14⟩, 92, 0)], 93) := rfl
theorem l_Law_123 : q_bk B_Law 123 = some ([(.invokevirtual 40, 123, 0), (.aload_n ⟨2, q_l24⟩, 126, 0)], 127) := rfl
theorem l_Law_157 : q_bk B_Law 157 = some ([(.invokevirtual 44, 157, 0), (.if_icmp .eq 455, 160, 615), (.iconst 0, 163, 0), (.ireturn, 164, 0)], 165) := rfl
theorem l_Law_165 : q_bk B_Law 165 = some ([(.aload_n ⟨1, q_l14⟩, 165, 0)], 166) := rfl
theorem l_Law_178 : q_bk B_Law 178 = some ([(.aload_n ⟨3, q_l34⟩, 178, 0)], 179) := rfl
theorem l_Law_182 : q_bk B_Law 182 = some ([(.istore 5, 182, 0), (.aload_n ⟨2, q_l24⟩, 184, 0)], 185) := rfl
theorem l_Law_197 : q_bk B_Law 197 = some ([(.invokevirtual 50, 197, 0), (.istore 6, 200, 0), (.aload_n ⟨2, q_l24⟩, 202, 0), (.invokevirtual 51, 203, 0), (.iload 5, 206, 0), (.if_icmp .eq 5, 208, 213), (.iconst 0, 211, 0), (.ireturn, 212, 0)], 213) := rfl
theorem l_Law_213 : q_bk B_Law 213 = some ([(.iload 5, 213, 0), (.ifCond .ne 15, 215, 230), (.aload_n ⟨3, q_l34⟩, 218, 0), (.iconst 0, 219, 0), (.laload, 220, 0), (.iload 6, 221, 0), (.i2l, 223, 0), (.lcmp, 224, 0), (.ifCond .eq 5, 225, 230), (.iconst 0, 228, 0), (.ireturn, 229, 0)], 230) := rfl
theorem l_Law_230 : q_bk B_Law 230 = some ([(.goto 385, 230, 615)], 233) := rfl
theorem l_Law_233 : q_bk B_Law 233 = some ([(.aload_n ⟨1, q_l14⟩, 233, 0)], 234) := rfl
theorem l_Law_240 : q_bk B_Law 240 = some ([(.invokevirtual 55, 240, 0), (.aload_n ⟨2, q_l24⟩, 243, 0)], 244) := rfl
theorem l_Law_250 : q_bk B_Law 250 = some ([(.invokevirtual 58, 250, 0), (.if_icmp .eq 362, 253, 615), (.iconst 0, 256, 0), (.ireturn, 257, 0)], 258) := rfl
theorem l_Law_258 : q_bk B_Law 258 = some ([(.aload_n ⟨1, q_l14⟩, 258, 0)], 259) := rfl
theorem l_Law_265 : q_bk B_Law 265 = some ([(.aload_n ⟨3, q_l34⟩, 265, 0)], 266) := rfl
theorem l_Law_269 : q_bk B_Law 269 = some ([(.istore 5, 269, 0), (.aload_n ⟨2, q_l24⟩, 271, 0)], 272) := rfl
theorem l_Law_278 : q_bk B_Law 278 = some ([(.invokevirtual 62, 278, 0), (.istore 6, 281, 0), (.aload_n ⟨2, q_l24⟩, 283, 0), (.invokevirtual 51, 284, 0), (.iload 5, 287, 0), (.if_icmp .eq 5, 289, 294), (.iconst 0, 292, 0), (.ireturn, 293, 0)], 294) := rfl
theorem l_Law_294 : q_bk B_Law 294 = some ([(.iload 5, 294, 0), (.ifCond .ne 15, 296, 311), (.aload_n ⟨3, q_l34⟩, 299, 0), (.iconst 0, 300, 0), (.laload, 301, 0), (.iload 6, 302, 0), (.i2l, 304, 0), (.lcmp, 305, 0), (.ifCond .eq 5, 306, 311), (.iconst 0, 309, 0), (.ireturn, 310, 0)], 311) := rfl
theorem l_Law_311 : q_bk B_Law 311 = some ([(.goto 304, 311, 615)], 314) := rfl
theorem l_Law_314 : q_bk B_Law 314 = some ([(.aload_n ⟨1, q_l14⟩, 314, 0)], 315) := rfl
theorem l_Law_321 : q_bk B_Law 321 = some ([(.ifCond .eq 7, 321, 328), (.iconst 1, 324, 0), (.goto 4, 325, 329)], 328) := rfl
theorem l_Law_328 : q_bk B_Law 328 = some ([(.iconst 0, 328, 0)], 329) := rfl
theorem l_Law_329 : q_bk B_Law 329 = some ([(.invokevirtual 63, 329, 0), (.aload_n ⟨2, q_l24⟩, 332, 0)], 333) := rfl
theorem l_Law_339 : q_bk B_Law 339 = some ([(.ifCond .eq 7, 339, 346), (.iconst 1, 342, 0), (.goto 4, 343, 347)], 346) := rfl
theorem l_Law_346 : q_bk B_Law 346 = some ([(.iconst 0, 346, 0)], 347) := rfl
theorem l_Law_347 : q_bk B_Law 347 = some ([(.invokevirtual 67, 347, 0), (.if_icmp .eq 265, 350, 615), (.iconst 0, 353, 0), (.ireturn, 354, 0)], 355) := rfl
theorem l_Law_355 : q_bk B_Law 355 = some ([(.aload_n ⟨1, q_l14⟩, 355, 0)], 356) := rfl
theorem l_Law_362 : q_bk B_Law 362 = some ([(.aload_n ⟨3, q_l34⟩, 362, 0)], 363) := rfl
theorem l_Law_366 : q_bk B_Law 366 = some ([(.istore 5, 366, 0), (.aload_n ⟨2, q_l24⟩, 368, 0)], 369) := rfl
theorem l_Law_375 : q_bk B_Law 375 = some ([(.invokevirtual 70, 375, 0), (.istore 6, 378, 0), (.aload_n ⟨2, q_l24⟩, 380, 0), (.invokevirtual 51, 381, 0), (.iload 5, 384, 0), (.if_icmp .eq 5, 386, 391), (.iconst 0, 389, 0), (.ireturn, 390, 0)], 391) := rfl
theorem l_Law_391 : q_bk B_Law 391 = some ([(.iload 5, 391, 0), (.ifCond .ne 15, 393, 408), (.aload_n ⟨3, q_l34⟩, 396, 0), (.iconst 0, 397, 0), (.laload, 398, 0), (.iload 6, 399, 0), (.i2l, 401, 0), (.lcmp, 402, 0), (.ifCond .eq 5, 403, 408), (.iconst 0, 406, 0), (.ireturn, 407, 0)], 408) := rfl
theorem l_Law_408 : q_bk B_Law 408 = some ([(.goto 207, 408, 615)], 411) := rfl
theorem l_Law_411 : q_bk B_Law 411 = some ([(.aload_n ⟨1, q_l14⟩, 411, 0)], 412) := rfl
theorem l_Law_424 : q_bk B_Law 424 = some ([(.aload_n ⟨3, q_l34⟩, 424, 0)], 425) := rfl
theorem l_Law_428 : q_bk B_Law 428 = some ([(.istore 5, 428, 0), (.aload_n ⟨2, q_l24⟩, 430, 0)], 431) := rfl
theorem l_Law_443 : q_bk B_Law 443 = some ([(.invokevirtual 73, 443, 0), (.istore 6, 446, 0), (.aload_n ⟨2, q_l24⟩, 448, 0), (.invokevirtual 51, 449, 0), (.iload 5, 452, 0), (.if_icmp .eq 5, 454, 459), (.iconst 0, 457, 0), (.ireturn, 458, 0)], 459) := rfl
theorem l_Law_459 : q_bk B_Law 459 = some ([(.iload 5, 459, 0), (.ifCond .ne 15, 461, 476), (.aload_n ⟨3, q_l34⟩, 464, 0), (.iconst 0, 465, 0), (.laload, 466, 0), (.iload 6, 467, 0), (.i2l, 469, 0), (.lcmp, 470, 0), (.ifCond .eq 5, 471, 476), (.iconst 0, 474, 0), (.ireturn, 475, 0)], 476) := rfl
theorem l_Law_476 : q_bk B_Law 476 = some ([(.goto 139, 476, 615)], 479) := rfl
theorem l_Law_479 : q_bk B_Law 479 = some ([(.aload_n ⟨1, q_l14⟩, 479, 0)], 480) := rfl
theorem l_Law_498 : q_bk B_Law 498 = some ([(.aload_n ⟨3, q_l34⟩, 498, 0)], 499) := rfl
theorem l_Law_502 : q_bk B_Law 502 = some ([(.istore 5, 502, 0), (.aload_n ⟨2, q_l24⟩, 504, 0)], 505) := rfl
theorem l_Law_523 : q_bk B_Law 523 = some ([(.invokevirtual 77, 523, 0), (.istore 6, 526, 0), (.aload_n ⟨2, q_l24⟩, 528, 0), (.invokevirtual 51, 529, 0), (.iload 5, 532, 0), (.if_icmp .eq 5, 534, 539), (.iconst 0, 537, 0), (.ireturn, 538, 0)], 539) := rfl
theorem l_Law_539 : q_bk B_Law 539 = some ([(.iload 5, 539, 0), (.ifCond .ne 15, 541, 556), (.aload_n ⟨3, q_l34⟩, 544, 0), (.iconst 0, 545, 0), (.laload, 546, 0), (.iload 6, 547, 0), (.i2l, 549, 0), (.lcmp, 550, 0), (.ifCond .eq 5, 551, 556), (.iconst 0, 554, 0), (.ireturn, 555, 0)], 556) := rfl
theorem l_Law_556 : q_bk B_Law 556 = some ([(.goto 59, 556, 615)], 559) := rfl
theorem l_Law_559 : q_bk B_Law 559 = some ([(.aload_n ⟨1, q_l14⟩, 559, 0)], 560) := rfl
theorem l_Law_566 : q_bk B_Law 566 = some ([(.aload_n ⟨3, q_l34⟩, 566, 0)], 567) := rfl
theorem l_Law_570 : q_bk B_Law 570 = some ([(.istore 5, 570, 0), (.aload_n ⟨2, q_l24⟩, 572, 0)], 573) := rfl
theorem l_Law_579 : q_bk B_Law 579 = some ([(.invokevirtual 80, 579, 0), (.istore 6, 582, 0), (.aload_n ⟨2, q_l24⟩, 584, 0), (.invokevirtual 51, 585, 0), (.iload 5, 588, 0), (.if_icmp .eq 5, 590, 595), (.iconst 0, 593, 0), (.ireturn, 594, 0)], 595) := rfl
theorem l_Law_595 : q_bk B_Law 595 = some ([(.iload 5, 595, 0), (.ifCond .ne 15, 597, 612), (.aload_n ⟨3, q_l34⟩, 600, 0), (.iconst 0, 601, 0), (.laload, 602, 0), (.iload 6, 603, 0), (.i2l, 605, 0), (.lcmp, 606, 0), (.ifCond .eq 5, 607, 612), (.iconst 0, 610, 0), (.ireturn, 611, 0)], 612) := rfl
theorem l_Law_612 : q_bk B_Law 612 = some ([(.goto 3, 612, 615)], 615) := rfl
theorem l_Law_615 : q_bk B_Law 615 = some ([(.iinc 4 6, 615, 0), (.goto (-595), 618, 23)], 621) := rfl
theorem l_Law_621 : q_bk B_Law 621 = some ([(.iconst 1, 621, 0), (.ireturn, 622, 0)], 623) := rfl
theorem dr_93 : decode code 93 = .ok (.aload_n ⟨0, q_l04⟩, 1) ∧ decode code (93 + 1) = .ok (.iload 4, 2) ∧ decode code (93 + 1 + 2) = .ok (.iconst 1, 1) ∧ decode code (93 + 1 + 2 + 1) = .ok (.iadd, 1) ∧ decode code (93 + 1 + 2 + 1 + 1) = .ok (.iaload, 1) := by decide +kernel
theorem dr_99 : decode code 99 = .ok (.aload_n ⟨0, q_l04⟩, 1) ∧ decode code (99 + 1) = .ok (.iload 4, 2) ∧ decode code (99 + 1 + 2) = .ok (.iconst 2, 1) ∧ decode code (99 + 1 + 2 + 1) = .ok (.iadd, 1) ∧ decode code (99 + 1 + 2 + 1 + 1) = .ok (.iaload, 1) := by decide +kernel
theorem dr_105 : decode code 105 = .ok (.aload_n ⟨0, q_l04⟩, 1) ∧ decode code (105 + 1) = .ok (.iload 4, 2) ∧ decode code (105 + 1 + 2) = .ok (.iconst 3, 1) ∧ decode code (105 + 1 + 2 + 1) = .ok (.iadd, 1) ∧ decode code (105 + 1 + 2 + 1 + 1) = .ok (.iaload, 1) := by decide +kernel
theorem dr_111 : decode code 111 = .ok (.aload_n ⟨0, q_l04⟩, 1) ∧ decode code (111 + 1) = .ok (.iload 4, 2) ∧ decode code (111 + 1 + 2) = .ok (.iconst 4, 1) ∧ decode code (111 + 1 + 2 + 1) = .ok (.iadd, 1) ∧ decode code (111 + 1 + 2 + 1 + 1) = .ok (.iaload, 1) := by decide +kernel
theorem dr_117 : decode code 117 = .ok (.aload_n ⟨0, q_l04⟩, 1) ∧ decode code (117 + 1) = .ok (.iload 4, 2) ∧ decode code (117 + 1 + 2) = .ok (.iconst 5, 1) ∧ decode code (117 + 1 + 2 + 1) = .ok (.iadd, 1) ∧ decode code (117 + 1 + 2 + 1 + 1) = .ok (.iaload, 1) := by decide +kernel
theorem dr_127 : decode code 127 = .ok (.aload_n ⟨0, q_l04⟩, 1) ∧ decode code (127 + 1) = .ok (.iload 4, 2) ∧ decode code (127 + 1 + 2) = .ok (.iconst 1, 1) ∧ decode code (127 + 1 + 2 + 1) = .ok (.iadd, 1) ∧ decode code (127 + 1 + 2 + 1 + 1) = .ok (.iaload, 1) := by decide +kernel
theorem dr_133 : decode code 133 = .ok (.aload_n ⟨0, q_l04⟩, 1) ∧ decode code (133 + 1) = .ok (.iload 4, 2) ∧ decode code (133 + 1 + 2) = .ok (.iconst 2, 1) ∧ decode code (133 + 1 + 2 + 1) = .ok (.iadd, 1) ∧ decode code (133 + 1 + 2 + 1 + 1) = .ok (.iaload, 1) := by decide +kernel
theorem dr_139 : decode code 139 = .ok (.aload_n ⟨0, q_l04⟩, 1) ∧ decode code (139 + 1) = .ok (.iload 4, 2) ∧ decode code (139 + 1 + 2) = .ok (.iconst 3, 1) ∧ decode code (139 + 1 + 2 + 1) = .ok (.iadd, 1) ∧ decode code (139 + 1 + 2 + 1 + 1) = .ok (.iaload, 1) := by decide +kernel
theorem dr_145 : decode code 145 = .ok (.aload_n ⟨0, q_l04⟩, 1) ∧ decode code (145 + 1) = .ok (.iload 4, 2) ∧ decode code (145 + 1 + 2) = .ok (.iconst 4, 1) ∧ decode code (145 + 1 + 2 + 1) = .ok (.iadd, 1) ∧ decode code (145 + 1 + 2 + 1 + 1) = .ok (.iaload, 1) := by decide +kernel
theorem dr_151 : decode code 151 = .ok (.aload_n ⟨0, q_l04⟩, 1) ∧ decode code (151 + 1) = .ok (.iload 4, 2) ∧ decode code (151 + 1 + 2) = .ok (.iconst 5, 1) ∧ decode code (151 + 1 + 2 + 1) = .ok (.iadd, 1) ∧ decode code (151 + 1 + 2 + 1 + 1) = .ok (.iaload, 1) := by decide +kernel
theorem dr_166 : decode code 166 = .ok (.aload_n ⟨0, q_l04⟩, 1) ∧ decode code (166 + 1) = .ok (.iload 4, 2) ∧ decode code (166 + 1 + 2) = .ok (.iconst 1, 1) ∧ decode code (166 + 1 + 2 + 1) = .ok (.iadd, 1) ∧ decode code (166 + 1 + 2 + 1 + 1) = .ok (.iaload, 1) := by decide +kernel
theorem dr_172 : decode code 172 = .ok (.aload_n ⟨0, q_l04⟩, 1) ∧ decode code (172 + 1) = .ok (.iload 4, 2) ∧ decode code (172 + 1 + 2) = .ok (.iconst 2, 1) ∧ decode code (172 + 1 + 2 + 1) = .ok (.iadd, 1) ∧ decode code (172 + 1 + 2 + 1 + 1) = .ok (.iaload, 1) := by decide +kernel
theorem ds_179 : decode code 179 = .ok (.invokestatic 45, 3) := by decide +kernel
theorem dr_185 : decode code 185 = .ok (.aload_n ⟨0, q_l04⟩, 1) ∧ decode code (185 + 1) = .ok (.iload 4, 2) ∧ decode code (185 + 1 + 2) = .ok (.iconst 1, 1) ∧ decode code (185 + 1 + 2 + 1) = .ok (.iadd, 1) ∧ decode code (185 + 1 + 2 + 1 + 1) = .ok (.iaload, 1) := by decide +kernel
theorem dr_191 : decode code 191 = .ok (.aload_n ⟨0, q_l04⟩, 1) ∧ decode code (191 + 1) = .ok (.iload 4, 2) ∧ decode code (191 + 1 + 2) = .ok (.iconst 2, 1) ∧ decode code (191 + 1 + 2 + 1) = .ok (.iadd, 1) ∧ decode code (191 + 1 + 2 + 1 + 1) = .ok (.iaload, 1) := by decide +kernel
theorem dr_234 : decode code 234 = .ok (.aload_n ⟨0, q_l04⟩, 1) ∧ decode code (234 + 1) = .ok (.iload 4, 2) ∧ decode code (234 + 1 + 2) = .ok (.iconst 1, 1) ∧ decode code (234 + 1 + 2 + 1) = .ok (.iadd, 1) ∧ decode code (234 + 1 + 2 + 1 + 1) = .ok (.iaload, 1) := by decide +kernel
theorem dr_244 : decode code 244 = .ok (.aload_n ⟨0, q_l04⟩, 1) ∧ decode code (244 + 1) = .ok (.iload 4, 2) ∧ decode code (244 + 1 + 2) = .ok (.iconst 1, 1) ∧ decode code (244 + 1 + 2 + 1) = .ok (.iadd, 1) ∧ decode code (244 + 1 + 2 + 1 + 1) = .ok (.iaload, 1) := by decide +kernel
theorem dr_259 : decode code 259 = .ok (.aload_n ⟨0, q_l04⟩, 1) ∧ decode code (259 + 1) = .ok (.iload 4, 2) ∧ decode code (259 + 1 + 2) = .ok (.iconst 1, 1) ∧ decode code (259 + 1 + 2 + 1) = .ok (.iadd, 1) ∧ decode code (259 + 1 + 2 + 1 + 1) = .ok (.iaload, 1) := by decide +kernel
theorem ds_266 : decode code 266 = .ok (.invokestatic 59, 3) := by decide +kernel
theorem dr_272 : decode code 272 = .ok (.aload_n ⟨0, q_l04⟩, 1) ∧ decode code (272 + 1) = .ok (.iload 4, 2) ∧ decode code (272 + 1 + 2) = .ok (.iconst 1, 1) ∧ decode code (272 + 1 + 2 + 1) = .ok (.iadd, 1) ∧ decode code (272 + 1 + 2 + 1 + 1) = .ok (.iaload, 1) := by decide +kernel
theorem dr_315 : decode code 315 = .ok (.aload_n ⟨0, q_l04⟩, 1) ∧ decode code (315 + 1) = .ok (.iload 4, 2) ∧ decode code (315 + 1 + 2) = .ok (.iconst 1, 1) ∧ decode code (315 + 1 + 2 + 1) = .ok (.iadd, 1) ∧ decode code (315 + 1 + 2 + 1 + 1) = .ok (.iaload, 1) := by decide +kernel
theorem dr_333 : decode code 333 = .ok (.aload_n ⟨0, q_l04⟩, 1) ∧ decode code (333 + 1) = .ok (.iload 4, 2) ∧ decode code (333 + 1 + 2) = .ok (.iconst 1, 1) ∧ decode code (333 + 1 + 2 + 1) = .ok (.iadd, 1) ∧ decode code (333 + 1 + 2 + 1 + 1) = .ok (.iaload, 1) := by decide +kernel
theorem dr_356 : decode code 356 = .ok (.aload_n ⟨0, q_l04⟩, 1) ∧ decode code (356 + 1) = .ok (.iload 4, 2) ∧ decode code (356 + 1 + 2) = .ok (.iconst 1, 1) ∧ decode code (356 + 1 + 2 + 1) = .ok (.iadd, 1) ∧ decode code (356 + 1 + 2 + 1 + 1) = .ok (.iaload, 1) := by decide +kernel
theorem ds_363 : decode code 363 = .ok (.invokestatic 68, 3) := by decide +kernel
theorem dr_369 : decode code 369 = .ok (.aload_n ⟨0, q_l04⟩, 1) ∧ decode code (369 + 1) = .ok (.iload 4, 2) ∧ decode code (369 + 1 + 2) = .ok (.iconst 1, 1) ∧ decode code (369 + 1 + 2 + 1) = .ok (.iadd, 1) ∧ decode code (369 + 1 + 2 + 1 + 1) = .ok (.iaload, 1) := by decide +kernel
theorem dr_412 : decode code 412 = .ok (.aload_n ⟨0, q_l04⟩, 1) ∧ decode code (412 + 1) = .ok (.iload 4, 2) ∧ decode code (412 + 1 + 2) = .ok (.iconst 1, 1) ∧ decode code (412 + 1 + 2 + 1) = .ok (.iadd, 1) ∧ decode code (412 + 1 + 2 + 1 + 1) = .ok (.iaload, 1) := by decide +kernel
theorem dr_418 : decode code 418 = .ok (.aload_n ⟨0, q_l04⟩, 1) ∧ decode code (418 + 1) = .ok (.iload 4, 2) ∧ decode code (418 + 1 + 2) = .ok (.iconst 2, 1) ∧ decode code (418 + 1 + 2 + 1) = .ok (.iadd, 1) ∧ decode code (418 + 1 + 2 + 1 + 1) = .ok (.iaload, 1) := by decide +kernel
theorem ds_425 : decode code 425 = .ok (.invokestatic 71, 3) := by decide +kernel
theorem dr_431 : decode code 431 = .ok (.aload_n ⟨0, q_l04⟩, 1) ∧ decode code (431 + 1) = .ok (.iload 4, 2) ∧ decode code (431 + 1 + 2) = .ok (.iconst 1, 1) ∧ decode code (431 + 1 + 2 + 1) = .ok (.iadd, 1) ∧ decode code (431 + 1 + 2 + 1 + 1) = .ok (.iaload, 1) := by decide +kernel
theorem dr_437 : decode code 437 = .ok (.aload_n ⟨0, q_l04⟩, 1) ∧ decode code (437 + 1) = .ok (.iload 4, 2) ∧ decode code (437 + 1 + 2) = .ok (.iconst 2, 1) ∧ decode code (437 + 1 + 2 + 1) = .ok (.iadd, 1) ∧ decode code (437 + 1 + 2 + 1 + 1) = .ok (.iaload, 1) := by decide +kernel
theorem dr_480 : decode code 480 = .ok (.aload_n ⟨0, q_l04⟩, 1) ∧ decode code (480 + 1) = .ok (.iload 4, 2) ∧ decode code (480 + 1 + 2) = .ok (.iconst 1, 1) ∧ decode code (480 + 1 + 2 + 1) = .ok (.iadd, 1) ∧ decode code (480 + 1 + 2 + 1 + 1) = .ok (.iaload, 1) := by decide +kernel
theorem dr_486 : decode code 486 = .ok (.aload_n ⟨0, q_l04⟩, 1) ∧ decode code (486 + 1) = .ok (.iload 4, 2) ∧ decode code (486 + 1 + 2) = .ok (.iconst 2, 1) ∧ decode code (486 + 1 + 2 + 1) = .ok (.iadd, 1) ∧ decode code (486 + 1 + 2 + 1 + 1) = .ok (.iaload, 1) := by decide +kernel
theorem dr_492 : decode code 492 = .ok (.aload_n ⟨0, q_l04⟩, 1) ∧ decode code (492 + 1) = .ok (.iload 4, 2) ∧ decode code (492 + 1 + 2) = .ok (.iconst 3, 1) ∧ decode code (492 + 1 + 2 + 1) = .ok (.iadd, 1) ∧ decode code (492 + 1 + 2 + 1 + 1) = .ok (.iaload, 1) := by decide +kernel
theorem ds_499 : decode code 499 = .ok (.invokestatic 74, 3) := by decide +kernel
theorem dr_505 : decode code 505 = .ok (.aload_n ⟨0, q_l04⟩, 1) ∧ decode code (505 + 1) = .ok (.iload 4, 2) ∧ decode code (505 + 1 + 2) = .ok (.iconst 1, 1) ∧ decode code (505 + 1 + 2 + 1) = .ok (.iadd, 1) ∧ decode code (505 + 1 + 2 + 1 + 1) = .ok (.iaload, 1) := by decide +kernel
theorem dr_511 : decode code 511 = .ok (.aload_n ⟨0, q_l04⟩, 1) ∧ decode code (511 + 1) = .ok (.iload 4, 2) ∧ decode code (511 + 1 + 2) = .ok (.iconst 2, 1) ∧ decode code (511 + 1 + 2 + 1) = .ok (.iadd, 1) ∧ decode code (511 + 1 + 2 + 1 + 1) = .ok (.iaload, 1) := by decide +kernel
theorem dr_517 : decode code 517 = .ok (.aload_n ⟨0, q_l04⟩, 1) ∧ decode code (517 + 1) = .ok (.iload 4, 2) ∧ decode code (517 + 1 + 2) = .ok (.iconst 3, 1) ∧ decode code (517 + 1 + 2 + 1) = .ok (.iadd, 1) ∧ decode code (517 + 1 + 2 + 1 + 1) = .ok (.iaload, 1) := by decide +kernel
theorem dr_560 : decode code 560 = .ok (.aload_n ⟨0, q_l04⟩, 1) ∧ decode code (560 + 1) = .ok (.iload 4, 2) ∧ decode code (560 + 1 + 2) = .ok (.iconst 1, 1) ∧ decode code (560 + 1 + 2 + 1) = .ok (.iadd, 1) ∧ decode code (560 + 1 + 2 + 1 + 1) = .ok (.iaload, 1) := by decide +kernel
theorem ds_567 : decode code 567 = .ok (.invokestatic 78, 3) := by decide +kernel
theorem dr_573 : decode code 573 = .ok (.aload_n ⟨0, q_l04⟩, 1) ∧ decode code (573 + 1) = .ok (.iload 4, 2) ∧ decode code (573 + 1 + 2) = .ok (.iconst 1, 1) ∧ decode code (573 + 1 + 2 + 1) = .ok (.iadd, 1) ∧ decode code (573 + 1 + 2 + 1 + 1) = .ok (.iaload, 1) := by decide +kernel
