/-! constructors of the small classes, and of Font -/
theorem k_cl0 {f : vw_C → Prop} : q_op (q_cl[0]?) f = f ("FontOutlines$Bytes", q_T0, 2) := rfl
theorem k_cl1 {f : vw_C → Prop} : q_op (q_cl[1]?) f = f ("FontOutlines$CharacterMap", q_T1, 4) := rfl
theorem k_cl2 {f : vw_C → Prop} : q_op (q_cl[2]?) f = f ("FontOutlines$Cursor", q_T2, 4) := rfl
theorem k_cl3 {f : vw_C → Prop} : q_op (q_cl[3]?) f = f ("FontOutlines$Font", q_T3, 15) := rfl
theorem k_cl4 {f : vw_C → Prop} : q_op (q_cl[4]?) f = f ("FontOutlines$Outline", q_T4, 10) := rfl
theorem k_cl5 {f : vw_C → Prop} : q_op (q_cl[5]?) f = f ("FontOutlines$Part", q_T5, 9) := rfl
theorem k_cl6 {f : vw_C → Prop} : q_op (q_cl[6]?) f = f ("FontOutlines$Table", q_T6, 3) := rfl
theorem k_cl7 {f : vw_C → Prop} : q_op (q_cl[7]?) f = f ("FontOutlines", q_T7, 6) := rfl
theorem k_cl8 {f : vw_C → Prop} : q_op (q_cl[8]?) f = f ("FontOutlinesModel", q_T8, 32) := rfl
theorem k_z0 : q_zero 0 2 = [.null, .int 0] := rfl
theorem k_z1 : q_zero 1 4 = [.null, .int 0, .int 0, .int 0] := rfl
theorem k_z2 : q_zero 2 4 = [.null, .int 0, .int 0, .int 0] := rfl
theorem k_z3 : q_zero 3 15 = [.null, .null, .null, .null, .null, .null, .null, .null, .null, .null, .null, .int 0, .int 0, .int 0, .int 0] := rfl
theorem k_z4 : q_zero 4 10 = [.null, .null, .null, .null, .null, .null, .int 0, .int 0, .int 0, .int 0] := rfl
theorem k_z5 : q_zero 5 9 = [.null, .int 0, .int 0, .int 0, .int 0, .int 0, .int 0, .int 0, .int 0] := rfl
theorem k_z6 : q_zero 6 3 = [.null, .int 0, .int 0] := rfl
theorem k_z7 : q_zero 7 6 = [.null, .null, .null, .null, .int 0, .int 0] := rfl
theorem k_at0 : q_atk .int = some 0 := rfl
theorem k_at1 : q_atk .byte = some 1 := rfl
theorem k_at2 : q_atk .long = some 2 := rfl
theorem k_at3 : q_atk .boolean = some 3 := rfl
theorem k_n256 : (¬ (256 : Int32) < 0) = True := eq_true (by decide)
theorem k_c256 : Int32.toNatClampNeg 256 = 256 := rfl
theorem k_n512 : (¬ (512 : Int32) < 0) = True := eq_true (by decide)
theorem k_c512 : Int32.toNatClampNeg 512 = 512 := rfl
theorem k_n6 : (¬ (6 : Int32) < 0) = True := eq_true (by decide)
theorem k_c6 : Int32.toNatClampNeg 6 = 6 := rfl
set_option maxRecDepth 100000 in
set_option maxHeartbeats 4000000 in
theorem c_By_init {G : q_G} {l : Launch} {d a n : Nat} {v0 v1 : Value} {h : q_H} {Q : q_P} (hA : h a = some (.inr (0, [v0, v1]))) (ne : a ≠ n) (hq : Q none (q_set (q_set h n (q_new 1 256)) a (.inr (0, [.ref n, .int 0]))) (n + 1)) : q_Call G l M_By_init (d + 1) 1 256 [.ref a] h n Q := by
  refine q_in u_By_init (by rw [L_By_init]; exact Nat.le_of_ble_eq_true rfl) ?_
  rw [L_By_init]
  refine q_at o_By_init [] 20 l_By_init_0 ?_
  simp -implicitDefEqProofs only [s_go, s_nil, s_cons, q_ins, s_op, s_i, s_j, s_a, s_v, s_li, s_lj, s_la, s_liO, s_ljO, s_laO, q_get, q_p1, q_p2, s_n2i, s_n2r, s_n2l, s_n2n, q_pad, q_ar, s_ob, s_obO, q_nth, s_ri, s_riO, s_rb, s_rbO, s_rzO, s_rl, s_rlO, s_rq, s_rqO, s_ry, s_ryO, s_dn, s_tl, s_tn, s_ap, s_an, s_ci, s_cr, s_ni, s_n0, s_n1, q_ags, q_cat, List.contains_nil, List.contains_cons, Nat.reduceBEq, Bool.or_false, Bool.false_or, Bool.true_or, Bool.false_eq_true, ↓reduceIte, Nat.le_refl, Nat.zero_le, true_and, and_true, Nat.reduceLeDiff, Nat.reduceAdd, Nat.add_zero, Nat.zero_add, List.length_cons, List.length_nil, List.set_cons_zero, List.set_cons_succ, Nat.reduceLT, s_fi, s_fl, s_fo, s_fa, s_f0, s_f1, s_set, s_ss, lg_cmp_ge, lg_cmp_le, lg_cmp_gt, lg_cmp_lt, lg_cmp_eq, s_brT, s_brF, s_10, w_By_init, r_By_init, l_By_init_0, oi_0_3, ks_256, f_0_9, ty_0_0, kc_0, f_0_15, ty_0_1, hA, k_at1, k_n256, k_c256, s_ne _ _ ne]
  exact hq
set_option maxRecDepth 100000 in
set_option maxHeartbeats 4000000 in
theorem c_Ta_init {G : q_G} {l : Launch} {d a f n : Nat} {v0 v1 v2 : Value} {h : q_H} {Q : q_P} (hA : h a = some (.inr (6, [v0, v1, v2]))) (hq : Q none (q_set h a (.inr (6, [.ref f, .int 0, .int 0]))) n) : q_Call G l M_Ta_init (d + 1) 0 0 [.ref a, .ref f] h n Q := by
  refine q_in u_Ta_init (by rw [L_Ta_init]; exact Nat.le_of_ble_eq_true rfl) ?_
  rw [L_Ta_init]
  refine q_at o_Ta_init [] 20 l_Ta_init_0 ?_
  simp -implicitDefEqProofs only [s_go, s_nil, s_cons, q_ins, s_op, s_i, s_j, s_a, s_v, s_li, s_lj, s_la, s_liO, s_ljO, s_laO, q_get, q_p1, q_p2, s_n2i, s_n2r, s_n2l, s_n2n, q_pad, q_ar, s_ob, s_obO, q_nth, s_ri, s_riO, s_rb, s_rbO, s_rzO, s_rl, s_rlO, s_rq, s_rqO, s_ry, s_ryO, s_dn, s_tl, s_tn, s_ap, s_an, s_ci, s_cr, s_ni, s_n0, s_n1, q_ags, q_cat, List.contains_nil, List.contains_cons, Nat.reduceBEq, Bool.or_false, Bool.false_or, Bool.true_or, Bool.false_eq_true, ↓reduceIte, Nat.le_refl, Nat.zero_le, true_and, and_true, Nat.reduceLeDiff, Nat.reduceAdd, Nat.add_zero, Nat.zero_add, List.length_cons, List.length_nil, List.set_cons_zero, List.set_cons_succ, Nat.reduceLT, s_fi, s_fl, s_fo, s_fa, s_f0, s_f1, s_set, s_ss, lg_cmp_ge, lg_cmp_le, lg_cmp_gt, lg_cmp_lt, lg_cmp_eq, s_brT, s_brF, s_10, w_Ta_init, r_Ta_init, l_Ta_init_0, oi_6_1, f_6_7, ty_6_0, kc_0, f_6_13, ty_6_1, f_6_17, ty_6_2, hA]
  exact hq
set_option maxRecDepth 100000 in
set_option maxHeartbeats 4000000 in
theorem c_Cu_init {G : q_G} {l : Launch} {d a f n : Nat} {v0 v1 v2 v3 : Value} {h : q_H} {Q : q_P} (hA : h a = some (.inr (2, [v0, v1, v2, v3]))) (hq : Q none (q_set h a (.inr (2, [.ref f, .int 0, .int 0, .int 0]))) n) : q_Call G l M_Cu_init (d + 1) 0 0 [.ref a, .ref f] h n Q := by
  refine q_in u_Cu_init (by rw [L_Cu_init]; exact Nat.le_of_ble_eq_true rfl) ?_
  rw [L_Cu_init]
  refine q_at o_Cu_init [] 20 l_Cu_init_0 ?_
  simp -implicitDefEqProofs only [s_go, s_nil, s_cons, q_ins, s_op, s_i, s_j, s_a, s_v, s_li, s_lj, s_la, s_liO, s_ljO, s_laO, q_get, q_p1, q_p2, s_n2i, s_n2r, s_n2l, s_n2n, q_pad, q_ar, s_ob, s_obO, q_nth, s_ri, s_riO, s_rb, s_rbO, s_rzO, s_rl, s_rlO, s_rq, s_rqO, s_ry, s_ryO, s_dn, s_tl, s_tn, s_ap, s_an, s_ci, s_cr, s_ni, s_n0, s_n1, q_ags, q_cat, List.contains_nil, List.contains_cons, Nat.reduceBEq, Bool.or_false, Bool.false_or, Bool.true_or, Bool.false_eq_true, ↓reduceIte, Nat.le_refl, Nat.zero_le, true_and, and_true, Nat.reduceLeDiff, Nat.reduceAdd, Nat.add_zero, Nat.zero_add, List.length_cons, List.length_nil, List.set_cons_zero, List.set_cons_succ, Nat.reduceLT, s_fi, s_fl, s_fo, s_fa, s_f0, s_f1, s_set, s_ss, lg_cmp_ge, lg_cmp_le, lg_cmp_gt, lg_cmp_lt, lg_cmp_eq, s_brT, s_brF, s_10, w_Cu_init, r_Cu_init, l_Cu_init_0, oi_2_1, f_2_7, ty_2_0, kc_0, f_2_13, ty_2_1, f_2_17, ty_2_2, f_2_20, ty_2_3, hA]
  exact hq
set_option maxRecDepth 100000 in
set_option maxHeartbeats 4000000 in
theorem c_Cm_init {G : q_G} {l : Launch} {d a f n : Nat} {v0 v1 v2 v3 : Value} {h : q_H} {Q : q_P} (hA : h a = some (.inr (1, [v0, v1, v2, v3]))) (hq : Q none (q_set h a (.inr (1, [.ref f, .int 0, .int 0, .int 0]))) n) : q_Call G l M_Cm_init (d + 1) 0 0 [.ref a, .ref f] h n Q := by
  refine q_in u_Cm_init (by rw [L_Cm_init]; exact Nat.le_of_ble_eq_true rfl) ?_
  rw [L_Cm_init]
  refine q_at o_Cm_init [] 20 l_Cm_init_0 ?_
  simp -implicitDefEqProofs only [s_go, s_nil, s_cons, q_ins, s_op, s_i, s_j, s_a, s_v, s_li, s_lj, s_la, s_liO, s_ljO, s_laO, q_get, q_p1, q_p2, s_n2i, s_n2r, s_n2l, s_n2n, q_pad, q_ar, s_ob, s_obO, q_nth, s_ri, s_riO, s_rb, s_rbO, s_rzO, s_rl, s_rlO, s_rq, s_rqO, s_ry, s_ryO, s_dn, s_tl, s_tn, s_ap, s_an, s_ci, s_cr, s_ni, s_n0, s_n1, q_ags, q_cat, List.contains_nil, List.contains_cons, Nat.reduceBEq, Bool.or_false, Bool.false_or, Bool.true_or, Bool.false_eq_true, ↓reduceIte, Nat.le_refl, Nat.zero_le, true_and, and_true, Nat.reduceLeDiff, Nat.reduceAdd, Nat.add_zero, Nat.zero_add, List.length_cons, List.length_nil, List.set_cons_zero, List.set_cons_succ, Nat.reduceLT, s_fi, s_fl, s_fo, s_fa, s_f0, s_f1, s_set, s_ss, lg_cmp_ge, lg_cmp_le, lg_cmp_gt, lg_cmp_lt, lg_cmp_eq, s_brT, s_brF, s_10, w_Cm_init, r_Cm_init, l_Cm_init_0, oi_1_3, f_1_9, ty_1_0, kc_0, f_1_15, ty_1_1, f_1_19, ty_1_2, f_1_23, ty_1_3, hA]
  exact hq
set_option maxRecDepth 100000 in
set_option maxHeartbeats 4000000 in
theorem c_Pa_init {G : q_G} {l : Launch} {d a f n : Nat} {v0 v1 v2 v3 v4 v5 v6 v7 v8 : Value} {h : q_H} {Q : q_P} (hA : h a = some (.inr (5, [v0, v1, v2, v3, v4, v5, v6, v7, v8]))) (ne : a ≠ n) (hq : Q none (q_set (q_set h n (.inr (2, [.ref f, .int 0, .int 0, .int 0]))) a (.inr (5, [.ref n, v1, v2, v3, v4, v5, v6, v7, v8]))) (n + 1)) : q_Call G l M_Pa_init (d + 2) 1 4 [.ref a, .ref f] h n Q := by
  refine q_in u_Pa_init (by rw [L_Pa_init]; exact Nat.le_of_ble_eq_true rfl) ?_
  rw [L_Pa_init]
  refine q_at o_Pa_init [] 20 l_Pa_init_0 ?_
  simp -implicitDefEqProofs only [s_go, s_nil, s_cons, q_ins, s_op, s_i, s_j, s_a, s_v, s_li, s_lj, s_la, s_liO, s_ljO, s_laO, q_get, q_p1, q_p2, s_n2i, s_n2r, s_n2l, s_n2n, q_pad, q_ar, s_ob, s_obO, q_nth, s_ri, s_riO, s_rb, s_rbO, s_rzO, s_rl, s_rlO, s_rq, s_rqO, s_ry, s_ryO, s_dn, s_tl, s_tn, s_ap, s_an, s_ci, s_cr, s_ni, s_n0, s_n1, q_ags, q_cat, List.contains_nil, List.contains_cons, Nat.reduceBEq, Bool.or_false, Bool.false_or, Bool.true_or, Bool.false_eq_true, ↓reduceIte, Nat.le_refl, Nat.zero_le, true_and, and_true, Nat.reduceLeDiff, Nat.reduceAdd, Nat.add_zero, Nat.zero_add, List.length_cons, List.length_nil, List.set_cons_zero, List.set_cons_succ, Nat.reduceLT, s_fi, s_fl, s_fo, s_fa, s_f0, s_f1, s_set, s_ss, lg_cmp_ge, lg_cmp_le, lg_cmp_gt, lg_cmp_lt, lg_cmp_eq, s_brT, s_brF, s_10, w_Pa_init, r_Pa_init, l_Pa_init_0, oi_5_3, cn_5_9, ml_5_11, w_Cu_init, q_oi_no_5_11, f_5_14, ty_5_0, k_cl2, k_z2]
  refine q_c0 (Nat.le_refl _) (Nat.le_refl _) ?_
  refine c_Cu_init (s_set _ _ _) ?_
  simp -implicitDefEqProofs only [s_go, s_nil, s_cons, q_ins, s_op, s_i, s_j, s_a, s_v, s_li, s_lj, s_la, s_liO, s_ljO, s_laO, q_get, q_p1, q_p2, s_n2i, s_n2r, s_n2l, s_n2n, q_pad, q_ar, s_ob, s_obO, q_nth, s_ri, s_riO, s_rb, s_rbO, s_rzO, s_rl, s_rlO, s_rq, s_rqO, s_ry, s_ryO, s_dn, s_tl, s_tn, s_ap, s_an, s_ci, s_cr, s_ni, s_n0, s_n1, q_ags, q_cat, List.contains_nil, List.contains_cons, Nat.reduceBEq, Bool.or_false, Bool.false_or, Bool.true_or, Bool.false_eq_true, ↓reduceIte, Nat.le_refl, Nat.zero_le, true_and, and_true, Nat.reduceLeDiff, Nat.reduceAdd, Nat.add_zero, Nat.zero_add, List.length_cons, List.length_nil, List.set_cons_zero, List.set_cons_succ, Nat.reduceLT, s_fi, s_fl, s_fo, s_fa, s_f0, s_f1, s_set, s_ss, lg_cmp_ge, lg_cmp_le, lg_cmp_gt, lg_cmp_lt, lg_cmp_eq, s_brT, s_brF, s_10, w_Pa_init, r_Pa_init, l_Pa_init_0, oi_5_3, cn_5_9, ml_5_11, w_Cu_init, q_oi_no_5_11, f_5_14, ty_5_0, hA, s_ne _ _ ne]
  exact hq
