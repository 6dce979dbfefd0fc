/-! the throws of FontOutlines -/
theorem t_thr0 {G : q_G} {l : Launch} {M : q_MT} {d mc ms : Nat} {Tq : q_T} {pc : Nat} {lv : q_L} {h : q_H} {n k sl : Nat} (hlt : l.stackTraces = false) (j : Nat) (tx : String) (hy : (q_y M).cls = "FontOutlines") (hd0 : decode (q_b M) pc = .ok (.new 53, 3)) (hd3 : decode (q_b M) (pc + 3) = .ok (.dup, 1)) (hd4 : decode (q_b M) (pc + 3 + 1) = .ok (.ldc j, 2)) (hd6 : decode (q_b M) (pc + 3 + 1 + 2) = .ok (.invokespecial 57, 3)) (hd9 : decode (q_b M) (pc + 3 + 1 + 2 + 3) = .ok (.athrow, 1)) (hs : (j, tx) ∈ x_s) (hk : k + 1 ≤ mc) (hsl : sl + 6 ≤ ms) (hd : 6 ≤ d) (kk : Tq 0 h (n + 1)) : q_Y G l M d mc ms Tq pc lv [] h n k sl :=
  t_throw hlt 0 53 57 j tx hy hd0 hd3 hd4 hd6 hd9 (x_ok_in _ _ x_own0) (q_has_in x_cl0.1) (q_has_in x_cl0.2) (by decide +kernel) hs hk hsl hd kk
theorem t_thr1 {G : q_G} {l : Launch} {M : q_MT} {d mc ms : Nat} {Tq : q_T} {pc : Nat} {lv : q_L} {h : q_H} {n k sl : Nat} (hlt : l.stackTraces = false) (j : Nat) (tx : String) (hy : (q_y M).cls = "FontOutlines") (hd0 : decode (q_b M) pc = .ok (.new 60, 3)) (hd3 : decode (q_b M) (pc + 3) = .ok (.dup, 1)) (hd4 : decode (q_b M) (pc + 3 + 1) = .ok (.ldc j, 2)) (hd6 : decode (q_b M) (pc + 3 + 1 + 2) = .ok (.invokespecial 64, 3)) (hd9 : decode (q_b M) (pc + 3 + 1 + 2 + 3) = .ok (.athrow, 1)) (hs : (j, tx) ∈ x_s) (hk : k + 1 ≤ mc) (hsl : sl + 6 ≤ ms) (hd : 6 ≤ d) (kk : Tq 1 h (n + 1)) : q_Y G l M d mc ms Tq pc lv [] h n k sl :=
  t_throw hlt 1 60 64 j tx hy hd0 hd3 hd4 hd6 hd9 (x_ok_in _ _ x_own1) (q_has_in x_cl1.1) (q_has_in x_cl1.2) (by decide +kernel) hs hk hsl hd kk
theorem t_thr2 {G : q_G} {l : Launch} {M : q_MT} {d mc ms : Nat} {Tq : q_T} {pc : Nat} {lv : q_L} {h : q_H} {n k sl : Nat} (hlt : l.stackTraces = false) (j : Nat) (tx : String) (hy : (q_y M).cls = "FontOutlines") (hd0 : decode (q_b M) pc = .ok (.new 161, 3)) (hd3 : decode (q_b M) (pc + 3) = .ok (.dup, 1)) (hd4 : decode (q_b M) (pc + 3 + 1) = .ok (.ldc j, 2)) (hd6 : decode (q_b M) (pc + 3 + 1 + 2) = .ok (.invokespecial 165, 3)) (hd9 : decode (q_b M) (pc + 3 + 1 + 2 + 3) = .ok (.athrow, 1)) (hs : (j, tx) ∈ x_s) (hk : k + 1 ≤ mc) (hsl : sl + 6 ≤ ms) (hd : 6 ≤ d) (kk : Tq 2 h (n + 1)) : q_Y G l M d mc ms Tq pc lv [] h n k sl :=
  t_throw hlt 2 161 165 j tx hy hd0 hd3 hd4 hd6 hd9 (x_ok_in _ _ x_own2) (q_has_in x_cl2.1) (q_has_in x_cl2.2) (by decide +kernel) hs hk hsl hd kk
set_option maxRecDepth 100000 in
set_option maxHeartbeats 4000000 in
theorem c_FO_needT {G : q_G} {l : Launch} {d x n : Nat} {v0 v1 v2 v3 v5 : Value} {h : q_H} {Tq : q_T} (hlt : l.stackTraces = false) (hO : h x = some (.inr (7, [v0, v1, v2, v3, .int 0, v5]))) (kk : Tq 2 h (n + 1)) : q_Thr G l M_FO_needFont (d + 6) 1 6 [.ref x] h n Tq := by
  refine t_in u_FO_needFont (by rw [L_FO_needFont]; exact Nat.le_of_ble_eq_true rfl) ?_
  rw [L_FO_needFont]
  refine t_at o_FO_needFont l_FO_needFont_0 ?_
  simp -implicitDefEqProofs only [s_go, s_nil, s_cons, q_ins, s_op, s_i, s_j, s_a, s_v, s_li, s_lj, s_la, s_liO, s_ljO, s_laO, q_get, q_p1, q_p2, s_n2i, s_n2r, s_n2l, s_n2n, q_pad, q_ar, s_ob, s_obO, q_nth, s_ri, s_riO, s_rb, s_rbO, s_rzO, s_rl, s_rlO, s_rq, s_rqO, s_ry, s_ryO, s_dn, s_tl, s_tn, s_ap, s_an, s_ci, s_cr, s_ni, s_n0, s_n1, q_ags, q_cat, List.contains_nil, List.contains_cons, Nat.reduceBEq, Bool.or_false, Bool.false_or, Bool.true_or, Bool.false_eq_true, ↓reduceIte, Nat.le_refl, Nat.zero_le, true_and, and_true, Nat.reduceLeDiff, Nat.reduceAdd, Nat.add_zero, Nat.zero_add, List.length_cons, List.length_nil, List.set_cons_zero, List.set_cons_succ, Nat.reduceLT, s_fi, s_fl, s_fo, s_fa, s_f0, s_f1, s_set, s_ss, lg_cmp_ge, lg_cmp_le, lg_cmp_gt, lg_cmp_lt, lg_cmp_eq, s_brT, s_brF, s_10, w_FO_needFont, r_FO_needFont, l_FO_needFont_0, l_FO_needFont_17, f_7_35, hO]
  refine t_thr2 hlt 163 "no font" (by decide +kernel) (show decode (q_b M_FO_needFont) 7 = .ok (.new 161, 3) by decide +kernel) (show decode (q_b M_FO_needFont) (7 + 3) = .ok (.dup, 1) by decide +kernel) (show decode (q_b M_FO_needFont) (7 + 3 + 1) = .ok (.ldc 163, 2) by decide +kernel) (show decode (q_b M_FO_needFont) (7 + 3 + 1 + 2) = .ok (.invokespecial 165, 3) by decide +kernel) (show decode (q_b M_FO_needFont) (7 + 3 + 1 + 2 + 3) = .ok (.athrow, 1) by decide +kernel) (by decide) ?_ ?_ ?_ ?_
  · omega
  · omega
  · omega
  · exact kk
set_option maxRecDepth 100000 in
set_option maxHeartbeats 4000000 in
theorem c_FO_putT0 {G : q_G} {l : Launch} {d x ra ma sz n : Nat} {v1 v2 v3 v4 v5 : Value} {i b : Int32} {g : Nat → Int32} {F : Nat → Nat} {h : q_H} {Tq : q_T} (hlt : l.stackTraces = false) (hO : h x = some (.inr (7, [.ref (x + 1), v1, v2, v3, v4, v5]))) (hB : q_By h (x + 1) ra ma g sz F) (hi : ∀ k, k < sz → i ≠ nI k) (kk : Tq 0 h (n + 1)) : q_Thr G l M_FO_put (d + 6) 1 6 [.ref x, .int i, .int b] h n Tq := by
  have hz : sz ≤ 16384 := Nat.le_trans hB.2.2.1 hB.2.2.2.1
  have hB1 := hB.1
  have fin : q_Y G l M_FO_put (d + 6) 1 6 Tq 15 [some (.ref x), some (.int i), some (.int b), none] [] h n 0 0 := by
    refine t_thr0 hlt 55 "no such byte" (by decide +kernel) (show decode (q_b M_FO_put) 15 = .ok (.new 53, 3) by decide +kernel) (show decode (q_b M_FO_put) (15 + 3) = .ok (.dup, 1) by decide +kernel) (show decode (q_b M_FO_put) (15 + 3 + 1) = .ok (.ldc 55, 2) by decide +kernel) (show decode (q_b M_FO_put) (15 + 3 + 1 + 2) = .ok (.invokespecial 57, 3) by decide +kernel) (show decode (q_b M_FO_put) (15 + 3 + 1 + 2 + 3) = .ok (.athrow, 1) by decide +kernel) (by decide) ?_ ?_ ?_ ?_
    · omega
    · omega
    · omega
    · exact kk
  refine t_in u_FO_put (by rw [L_FO_put]; exact Nat.le_of_ble_eq_true rfl) ?_
  rw [L_FO_put]
  refine t_at o_FO_put l_FO_put_0 ?_
  simp -implicitDefEqProofs only [s_go, s_nil, s_cons, q_ins, s_op, s_i, s_j, s_a, s_v, s_li, s_lj, s_la, s_liO, s_ljO, s_laO, q_get, q_p1, q_p2, s_n2i, s_n2r, s_n2l, s_n2n, q_pad, q_ar, s_ob, s_obO, q_nth, s_ri, s_riO, s_rb, s_rbO, s_rzO, s_rl, s_rlO, s_rq, s_rqO, s_ry, s_ryO, s_dn, s_tl, s_tn, s_ap, s_an, s_ci, s_cr, s_ni, s_n0, s_n1, q_ags, q_cat, List.contains_nil, List.contains_cons, Nat.reduceBEq, Bool.or_false, Bool.false_or, Bool.true_or, Bool.false_eq_true, ↓reduceIte, Nat.le_refl, Nat.zero_le, true_and, and_true, Nat.reduceLeDiff, Nat.reduceAdd, Nat.add_zero, Nat.zero_add, List.length_cons, List.length_nil, List.set_cons_zero, List.set_cons_succ, Nat.reduceLT, s_fi, s_fl, s_fo, s_fa, s_f0, s_f1, s_set, s_ss, lg_cmp_ge, lg_cmp_le, lg_cmp_gt, lg_cmp_lt, lg_cmp_eq, s_brT, s_brF, s_10, w_FO_put, r_FO_put, l_FO_put_0, l_FO_put_25, l_FO_put_46, f_7_12, f_7_43, ks_255, ml_7_65, w_By_u8, ml_7_69, w_By_change, hO, hB1]
  refine ⟨fun _ => fin, fun z => ⟨fun z2 => ?_, fun _ => fin⟩⟩
  rcases pk_ix i (n := sz) (by omega) with z3 | z3 | ⟨k, hk, e⟩
  · exact absurd z3 z
  · exact absurd z2 (Int32.not_lt.mpr z3)
  · exact absurd e (hi k hk)
set_option maxRecDepth 100000 in
set_option maxHeartbeats 4000000 in
theorem c_FO_putT1 {G : q_G} {l : Launch} {d x ra ma sz n k : Nat} {v1 v2 v3 v4 v5 : Value} {b : Int32} {g : Nat → Int32} {F : Nat → Nat} {h : q_H} {Tq : q_T} (hlt : l.stackTraces = false) (hO : h x = some (.inr (7, [.ref (x + 1), v1, v2, v3, v4, v5]))) (hB : q_By h (x + 1) ra ma g sz F) (hk : k < sz) (hb : ∀ v, v < 256 → b ≠ nI v) (kk : Tq 1 h (n + 1)) : q_Thr G l M_FO_put (d + 6) 1 6 [.ref x, .int (nI k), .int b] h n Tq := by
  have hz : sz ≤ 16384 := Nat.le_trans hB.2.2.1 hB.2.2.2.1
  have hB1 := hB.1
  have fin : q_Y G l M_FO_put (d + 6) 1 6 Tq 36 [some (.ref x), some (.int (nI k)), some (.int b), none] [] h n 0 0 := by
    refine t_thr1 hlt 62 "not a byte" (by decide +kernel) (show decode (q_b M_FO_put) 36 = .ok (.new 60, 3) by decide +kernel) (show decode (q_b M_FO_put) (36 + 3) = .ok (.dup, 1) by decide +kernel) (show decode (q_b M_FO_put) (36 + 3 + 1) = .ok (.ldc 62, 2) by decide +kernel) (show decode (q_b M_FO_put) (36 + 3 + 1 + 2) = .ok (.invokespecial 64, 3) by decide +kernel) (show decode (q_b M_FO_put) (36 + 3 + 1 + 2 + 3) = .ok (.athrow, 1) by decide +kernel) (by decide) ?_ ?_ ?_ ?_
    · omega
    · omega
    · omega
    · exact kk
  refine t_in u_FO_put (by rw [L_FO_put]; exact Nat.le_of_ble_eq_true rfl) ?_
  rw [L_FO_put]
  refine t_at o_FO_put l_FO_put_0 ?_
  simp -implicitDefEqProofs only [s_go, s_nil, s_cons, q_ins, s_op, s_i, s_j, s_a, s_v, s_li, s_lj, s_la, s_liO, s_ljO, s_laO, q_get, q_p1, q_p2, s_n2i, s_n2r, s_n2l, s_n2n, q_pad, q_ar, s_ob, s_obO, q_nth, s_ri, s_riO, s_rb, s_rbO, s_rzO, s_rl, s_rlO, s_rq, s_rqO, s_ry, s_ryO, s_dn, s_tl, s_tn, s_ap, s_an, s_ci, s_cr, s_ni, s_n0, s_n1, q_ags, q_cat, List.contains_nil, List.contains_cons, Nat.reduceBEq, Bool.or_false, Bool.false_or, Bool.true_or, Bool.false_eq_true, ↓reduceIte, Nat.le_refl, Nat.zero_le, true_and, and_true, Nat.reduceLeDiff, Nat.reduceAdd, Nat.add_zero, Nat.zero_add, List.length_cons, List.length_nil, List.set_cons_zero, List.set_cons_succ, Nat.reduceLT, s_fi, s_fl, s_fo, s_fa, s_f0, s_f1, s_set, s_ss, lg_cmp_ge, lg_cmp_le, lg_cmp_gt, lg_cmp_lt, lg_cmp_eq, s_brT, s_brF, s_10, w_FO_put, r_FO_put, l_FO_put_0, l_FO_put_25, l_FO_put_46, f_7_12, f_7_43, ks_255, ml_7_65, w_By_u8, ml_7_69, w_By_change, hO, hB1, show (nI k < 0) = False from eq_false (nI_pos (by omega)), show (nI k < nI sz) = True from eq_true ((nI_ltI (by omega) (by omega)).mpr hk)]
  refine t_at o_FO_put l_FO_put_25 ?_
  simp -implicitDefEqProofs only [s_go, s_nil, s_cons, q_ins, s_op, s_i, s_j, s_a, s_v, s_li, s_lj, s_la, s_liO, s_ljO, s_laO, q_get, q_p1, q_p2, s_n2i, s_n2r, s_n2l, s_n2n, q_pad, q_ar, s_ob, s_obO, q_nth, s_ri, s_riO, s_rb, s_rbO, s_rzO, s_rl, s_rlO, s_rq, s_rqO, s_ry, s_ryO, s_dn, s_tl, s_tn, s_ap, s_an, s_ci, s_cr, s_ni, s_n0, s_n1, q_ags, q_cat, List.contains_nil, List.contains_cons, Nat.reduceBEq, Bool.or_false, Bool.false_or, Bool.true_or, Bool.false_eq_true, ↓reduceIte, Nat.le_refl, Nat.zero_le, true_and, and_true, Nat.reduceLeDiff, Nat.reduceAdd, Nat.add_zero, Nat.zero_add, List.length_cons, List.length_nil, List.set_cons_zero, List.set_cons_succ, Nat.reduceLT, s_fi, s_fl, s_fo, s_fa, s_f0, s_f1, s_set, s_ss, lg_cmp_ge, lg_cmp_le, lg_cmp_gt, lg_cmp_lt, lg_cmp_eq, s_brT, s_brF, s_10, w_FO_put, r_FO_put, l_FO_put_0, l_FO_put_25, l_FO_put_46, f_7_12, f_7_43, ks_255, ml_7_65, w_By_u8, ml_7_69, w_By_change]
  refine ⟨fun _ => fin, fun z => ⟨fun z2 => ?_, fun _ => fin⟩⟩
  rcases pk_ix b (n := 256) (by omega) with z3 | z3 | ⟨v, hv, e⟩
  · exact absurd z3 z
  · exact absurd z3 (Int32.not_le.mpr (Int32.lt_of_le_of_lt z2 (by decide)))
  · exact absurd e (hb v hv)
set_option maxRecDepth 100000 in
set_option maxHeartbeats 4000000 in
theorem c_FO_cutT {G : q_G} {l : Launch} {d x n : Nat} {y : Int32} {h : q_H} {Tq : q_T} (hlt : l.stackTraces = false) (hy : y < 0) (kk : Tq 1 h (n + 1)) : q_Thr G l M_FO_cut (d + 6) 1 6 [.ref x, .int y] h n Tq := by
  refine t_in u_FO_cut (by rw [L_FO_cut]; exact Nat.le_of_ble_eq_true rfl) ?_
  rw [L_FO_cut]
  refine t_at o_FO_cut l_FO_cut_0 ?_
  simp -implicitDefEqProofs only [s_go, s_nil, s_cons, q_ins, s_op, s_i, s_j, s_a, s_v, s_li, s_lj, s_la, s_liO, s_ljO, s_laO, q_get, q_p1, q_p2, s_n2i, s_n2r, s_n2l, s_n2n, q_pad, q_ar, s_ob, s_obO, q_nth, s_ri, s_riO, s_rb, s_rbO, s_rzO, s_rl, s_rlO, s_rq, s_rqO, s_ry, s_ryO, s_dn, s_tl, s_tn, s_ap, s_an, s_ci, s_cr, s_ni, s_n0, s_n1, q_ags, q_cat, List.contains_nil, List.contains_cons, Nat.reduceBEq, Bool.or_false, Bool.false_or, Bool.true_or, Bool.false_eq_true, ↓reduceIte, Nat.le_refl, Nat.zero_le, true_and, and_true, Nat.reduceLeDiff, Nat.reduceAdd, Nat.add_zero, Nat.zero_add, List.length_cons, List.length_nil, List.set_cons_zero, List.set_cons_succ, Nat.reduceLT, s_fi, s_fl, s_fo, s_fa, s_f0, s_f1, s_set, s_ss, lg_cmp_ge, lg_cmp_le, lg_cmp_gt, lg_cmp_lt, lg_cmp_eq, s_brT, s_brF, s_10, w_FO_cut, r_FO_cut, l_FO_cut_0, l_FO_cut_14, l_FO_cut_37, l_FO_cut_38, f_7_12, f_7_43, kc_0, ty_0_1, show ((0 : Int32) ≤ y) = False from eq_false (Int32.not_le.mpr hy)]
  refine t_thr1 hlt 73 "fewer bytes than none" (by decide +kernel) (show decode (q_b M_FO_cut) 4 = .ok (.new 60, 3) by decide +kernel) (show decode (q_b M_FO_cut) (4 + 3) = .ok (.dup, 1) by decide +kernel) (show decode (q_b M_FO_cut) (4 + 3 + 1) = .ok (.ldc 73, 2) by decide +kernel) (show decode (q_b M_FO_cut) (4 + 3 + 1 + 2) = .ok (.invokespecial 64, 3) by decide +kernel) (show decode (q_b M_FO_cut) (4 + 3 + 1 + 2 + 3) = .ok (.athrow, 1) by decide +kernel) (by decide) ?_ ?_ ?_ ?_
  · omega
  · omega
  · omega
  · exact kk
set_option maxRecDepth 100000 in
set_option maxHeartbeats 4000000 in
theorem c_FO_glyphN {G : q_G} {l : Launch} {d x n : Nat} {v0 v1 v2 v3 v5 : Value} {a1 : Int32} {h : q_H} {Tq : q_T} (hlt : l.stackTraces = false) (hO : h x = some (.inr (7, [v0, v1, v2, v3, .int 0, v5]))) (kk : Tq 2 h (n + 1)) : q_Thr G l M_FO_glyph (d + 7) 1 6 [.ref x, .int a1] h n Tq := by
  refine t_in u_FO_glyph (by rw [L_FO_glyph]; exact Nat.le_of_ble_eq_true rfl) ?_
  rw [L_FO_glyph]
  refine t_at (B := [(0, [(.aload_n ⟨0, q_l04⟩, 0, 0)], 1)]) (pc := 0) (by decide +kernel) rfl ?_
  simp -implicitDefEqProofs only [s_go, s_nil, s_cons, q_ins, s_op, s_i, s_j, s_a, s_v, s_li, s_lj, s_la, s_liO, s_ljO, s_laO, q_get, q_p1, q_p2, s_n2i, s_n2r, s_n2l, s_n2n, q_pad, q_ar, s_ob, s_obO, q_nth, s_ri, s_riO, s_rb, s_rbO, s_rzO, s_rl, s_rlO, s_rq, s_rqO, s_ry, s_ryO, s_dn, s_tl, s_tn, s_ap, s_an, s_ci, s_cr, s_ni, s_n0, s_n1, q_ags, q_cat, List.contains_nil, List.contains_cons, Nat.reduceBEq, Bool.or_false, Bool.false_or, Bool.true_or, Bool.false_eq_true, ↓reduceIte, Nat.le_refl, Nat.zero_le, true_and, and_true, Nat.reduceLeDiff, Nat.reduceAdd, Nat.add_zero, Nat.zero_add, List.length_cons, List.length_nil, List.set_cons_zero, List.set_cons_succ, Nat.reduceLT, s_fi, s_fl, s_fo, s_fa, s_f0, s_f1, s_set, s_ss, lg_cmp_ge, lg_cmp_le, lg_cmp_gt, lg_cmp_lt, lg_cmp_eq, s_brT, s_brF, s_10, w_FO_glyph, r_FO_glyph, l_FO_glyph_0, l_FO_glyph_24, l_FO_glyph_54, l_FO_glyph_55, ml_7_89, w_FO_needFont, ki_7_92, f_7_19, f_7_95, ml_7_99, w_Cm_glyphOf, f_7_86, kc_0]
  exact t_calV (bs := []) (r := []) ml_7_89 hO rfl (by decide) (show decode (q_b M_FO_glyph) 1 = .ok (.invokevirtual 89, 3) by decide +kernel) (by omega) (by omega) (c_FO_needT (d := d) hlt hO kk)
set_option maxRecDepth 100000 in
set_option maxHeartbeats 4000000 in
theorem c_FO_fontN {G : q_G} {l : Launch} {d x n : Nat} {v0 v1 v2 v3 v5 : Value} {a1 : Int32} {h : q_H} {Tq : q_T} (hlt : l.stackTraces = false) (hO : h x = some (.inr (7, [v0, v1, v2, v3, .int 0, v5]))) (kk : Tq 2 h (n + 1)) : q_Thr G l M_FO_font (d + 7) 1 6 [.ref x, .int a1] h n Tq := by
  refine t_in u_FO_font (by rw [L_FO_font]; exact Nat.le_of_ble_eq_true rfl) ?_
  rw [L_FO_font]
  refine t_at (B := [(0, [(.aload_n ⟨0, q_l04⟩, 0, 0)], 1)]) (pc := 0) (by decide +kernel) rfl ?_
  simp -implicitDefEqProofs only [s_go, s_nil, s_cons, q_ins, s_op, s_i, s_j, s_a, s_v, s_li, s_lj, s_la, s_liO, s_ljO, s_laO, q_get, q_p1, q_p2, s_n2i, s_n2r, s_n2l, s_n2n, q_pad, q_ar, s_ob, s_obO, q_nth, s_ri, s_riO, s_rb, s_rbO, s_rzO, s_rl, s_rlO, s_rq, s_rqO, s_ry, s_ryO, s_dn, s_tl, s_tn, s_ap, s_an, s_ci, s_cr, s_ni, s_n0, s_n1, q_ags, q_cat, List.contains_nil, List.contains_cons, Nat.reduceBEq, Bool.or_false, Bool.false_or, Bool.true_or, Bool.false_eq_true, ↓reduceIte, Nat.le_refl, Nat.zero_le, true_and, and_true, Nat.reduceLeDiff, Nat.reduceAdd, Nat.add_zero, Nat.zero_add, List.length_cons, List.length_nil, List.set_cons_zero, List.set_cons_succ, Nat.reduceLT, s_fi, s_fl, s_fo, s_fa, s_f0, s_f1, s_set, s_ss, lg_cmp_ge, lg_cmp_le, lg_cmp_gt, lg_cmp_lt, lg_cmp_eq, s_brT, s_brF, s_10, w_FO_font, r_FO_font, l_FO_font_0, l_FO_font_23, l_FO_font_35, l_FO_font_52, l_FO_font_53, ml_7_89, w_FO_needFont, kc_1, f_7_19, f_7_155, f_7_95, f_7_158, kc_0]
  exact t_calV (bs := []) (r := []) ml_7_89 hO rfl (by decide) (show decode (q_b M_FO_font) 1 = .ok (.invokevirtual 89, 3) by decide +kernel) (by omega) (by omega) (c_FO_needT (d := d) hlt hO kk)
set_option maxRecDepth 100000 in
set_option maxHeartbeats 4000000 in
theorem c_FO_measureN {G : q_G} {l : Launch} {d x n : Nat} {v0 v1 v2 v3 v5 : Value} {a1 a2 : Int32} {h : q_H} {Tq : q_T} (hlt : l.stackTraces = false) (hO : h x = some (.inr (7, [v0, v1, v2, v3, .int 0, v5]))) (kk : Tq 2 h (n + 1)) : q_Thr G l M_FO_measure (d + 7) 1 6 [.ref x, .int a1, .int a2] h n Tq := by
  refine t_in u_FO_measure (by rw [L_FO_measure]; exact Nat.le_of_ble_eq_true rfl) ?_
  rw [L_FO_measure]
  refine t_at (B := [(0, [(.aload_n ⟨0, q_l04⟩, 0, 0)], 1)]) (pc := 0) (by decide +kernel) rfl ?_
  simp -implicitDefEqProofs only [s_go, s_nil, s_cons, q_ins, s_op, s_i, s_j, s_a, s_v, s_li, s_lj, s_la, s_liO, s_ljO, s_laO, q_get, q_p1, q_p2, s_n2i, s_n2r, s_n2l, s_n2n, q_pad, q_ar, s_ob, s_obO, q_nth, s_ri, s_riO, s_rb, s_rbO, s_rzO, s_rl, s_rlO, s_rq, s_rqO, s_ry, s_ryO, s_dn, s_tl, s_tn, s_ap, s_an, s_ci, s_cr, s_ni, s_n0, s_n1, q_ags, q_cat, List.contains_nil, List.contains_cons, Nat.reduceBEq, Bool.or_false, Bool.false_or, Bool.true_or, Bool.false_eq_true, ↓reduceIte, Nat.le_refl, Nat.zero_le, true_and, and_true, Nat.reduceLeDiff, Nat.reduceAdd, Nat.add_zero, Nat.zero_add, List.length_cons, List.length_nil, List.set_cons_zero, List.set_cons_succ, Nat.reduceLT, s_fi, s_fl, s_fo, s_fa, s_f0, s_f1, s_set, s_ss, lg_cmp_ge, lg_cmp_le, lg_cmp_gt, lg_cmp_lt, lg_cmp_eq, s_brT, s_brF, s_10, w_FO_measure, r_FO_measure, l_FO_measure_0, l_FO_measure_32, l_FO_measure_80, l_FO_measure_95, l_FO_measure_110, l_FO_measure_118, l_FO_measure_126, l_FO_measure_141, l_FO_measure_156, l_FO_measure_171, ml_7_89, w_FO_needFont, ml_7_105, w_FO_isGlyph, kb_7, ml_7_111, w_FO_show, f_7_19, f_7_31, f_7_114, ml_7_117, w_Fo_widthOf, ml_7_120, w_Fo_leftOf, f_7_123, f_7_126, f_7_129, ml_7_133, w_Ou_least, f_7_137, ml_7_140, w_Ou_greatest]
  exact t_calV (bs := []) (r := []) ml_7_89 hO rfl (by decide) (show decode (q_b M_FO_measure) 1 = .ok (.invokevirtual 89, 3) by decide +kernel) (by omega) (by omega) (c_FO_needT (d := d) hlt hO kk)
set_option maxRecDepth 100000 in
set_option maxHeartbeats 4000000 in
theorem c_FO_pointN {G : q_G} {l : Launch} {d x n : Nat} {v0 v1 v2 v3 v5 : Value} {a1 a2 a3 : Int32} {h : q_H} {Tq : q_T} (hlt : l.stackTraces = false) (hO : h x = some (.inr (7, [v0, v1, v2, v3, .int 0, v5]))) (kk : Tq 2 h (n + 1)) : q_Thr G l M_FO_point (d + 7) 1 6 [.ref x, .int a1, .int a2, .int a3] h n Tq := by
  refine t_in u_FO_point (by rw [L_FO_point]; exact Nat.le_of_ble_eq_true rfl) ?_
  rw [L_FO_point]
  refine t_at (B := [(0, [(.aload_n ⟨0, q_l04⟩, 0, 0)], 1)]) (pc := 0) (by decide +kernel) rfl ?_
  simp -implicitDefEqProofs only [s_go, s_nil, s_cons, q_ins, s_op, s_i, s_j, s_a, s_v, s_li, s_lj, s_la, s_liO, s_ljO, s_laO, q_get, q_p1, q_p2, s_n2i, s_n2r, s_n2l, s_n2n, q_pad, q_ar, s_ob, s_obO, q_nth, s_ri, s_riO, s_rb, s_rbO, s_rzO, s_rl, s_rlO, s_rq, s_rqO, s_ry, s_ryO, s_dn, s_tl, s_tn, s_ap, s_an, s_ci, s_cr, s_ni, s_n0, s_n1, q_ags, q_cat, List.contains_nil, List.contains_cons, Nat.reduceBEq, Bool.or_false, Bool.false_or, Bool.true_or, Bool.false_eq_true, ↓reduceIte, Nat.le_refl, Nat.zero_le, true_and, and_true, Nat.reduceLeDiff, Nat.reduceAdd, Nat.add_zero, Nat.zero_add, List.length_cons, List.length_nil, List.set_cons_zero, List.set_cons_succ, Nat.reduceLT, s_fi, s_fl, s_fo, s_fa, s_f0, s_f1, s_set, s_ss, lg_cmp_ge, lg_cmp_le, lg_cmp_gt, lg_cmp_lt, lg_cmp_eq, s_brT, s_brF, s_10, w_FO_point, r_FO_point, l_FO_point_0, l_FO_point_31, l_FO_point_61, l_FO_point_88, l_FO_point_98, l_FO_point_108, l_FO_point_120, ml_7_89, w_FO_needFont, ml_7_105, w_FO_isGlyph, kc_3, ml_7_111, w_FO_show, f_7_31, f_7_123, f_7_129, f_7_137, f_7_147, kc_1, f_7_150]
  exact t_calV (bs := []) (r := []) ml_7_89 hO rfl (by decide) (show decode (q_b M_FO_point) 1 = .ok (.invokevirtual 89, 3) by decide +kernel) (by omega) (by omega) (c_FO_needT (d := d) hlt hO kk)
