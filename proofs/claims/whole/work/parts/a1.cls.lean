/-! FontOutlines: feed, at -/
theorem fl_sz {sz : Nat} (h : sz ≤ 16384) : (nI sz ≤ 16364) = (sz ≤ 16364) := propext ⟨fun q => (nI_leI (a := sz) (b := 16364) (by omega) (by omega)).mp q, fun q => (nI_leI (a := sz) (b := 16364) (by omega) (by omega)).mpr q⟩
theorem fl_20 {sz : Nat} (h : sz + 20 ≤ 16384) : nI sz + 20 = nI (sz + 20) := by
  rw [show (20 : Int32) = nI 20 from rfl, nI_add]
set_option maxRecDepth 100000 in
set_option maxHeartbeats 4000000 in
theorem c_FO_feed0 {G : q_G} {l : Launch} {d x ra ma sz n : Nat} {v1 v2 v3 v4 v5 : Value} {a b c e f : Int32} {g : Nat → Int32} {F : Nat → Nat} {h : q_H} {Q : q_P} (hO : h x = some (.inr (7, [.ref (x + 1), v1, v2, v3, v4, v5]))) (hB : q_By h (x + 1) ra ma g sz F) (hs : 16384 < sz + 20) (hq : Q (some (.int (-1))) h n) : q_Call G l M_FO_feed d 0 0 [.ref x, .int a, .int b, .int c, .int e, .int f] h n Q := by
  have hz : sz ≤ 16384 := Nat.le_trans hB.2.2.1 hB.2.2.2.1
  have hB1 := hB.1
  refine q_in u_FO_feed (by rw [L_FO_feed]; exact Nat.le_of_ble_eq_true rfl) ?_
  rw [L_FO_feed]
  refine q_at o_FO_feed [15] 20 l_FO_feed_0 ?_
  simp -implicitDefEqProofs only [s_go, s_nil, s_cons, q_ins, s_op, s_i, s_j, s_a, s_v, s_li, s_lj, s_la, s_liO, s_ljO, s_laO, q_get, q_p1, q_p2, s_n2i, s_n2r, s_n2l, s_n2n, q_pad, q_ar, s_ob, s_obO, q_nth, s_ri, s_riO, s_rb, s_rbO, s_rzO, s_rl, s_rlO, s_rq, s_rqO, s_ry, s_ryO, s_dn, s_tl, s_tn, s_ap, s_an, s_ci, s_cr, s_ni, s_n0, s_n1, q_ags, q_cat, List.contains_nil, List.contains_cons, Nat.reduceBEq, Bool.or_false, Bool.false_or, Bool.true_or, Bool.false_eq_true, ↓reduceIte, Nat.le_refl, Nat.zero_le, true_and, and_true, Nat.reduceLeDiff, Nat.reduceAdd, Nat.add_zero, Nat.zero_add, List.length_cons, List.length_nil, List.set_cons_zero, List.set_cons_succ, Nat.reduceLT, s_fi, s_fl, s_fo, s_fa, s_f0, s_f1, s_set, s_ss, lg_cmp_ge, lg_cmp_le, lg_cmp_gt, lg_cmp_lt, lg_cmp_eq, s_brT, s_brF, s_10, w_FO_feed, r_FO_feed, l_FO_feed_0, l_FO_feed_15, f_7_12, f_7_43, ks_16364, kc_m1, kb_20, ml_7_46, w_By_makeRoom, ml_7_50, w_By_addWord, hO, hB1, show (nI sz ≤ 16364) = False from (fl_sz hz).trans (eq_false (by omega))]
  exact hq
set_option maxRecDepth 100000 in
set_option maxHeartbeats 4000000 in
theorem c_FO_feed1 {G : q_G} {l : Launch} {d x ra ma sz n : Nat} {v1 v2 v3 v4 v5 : Value} {a b c e f : Int32} {g : Nat → Int32} {F : Nat → Nat} {h : q_H} {Q : q_P} (hO : h x = some (.inr (7, [.ref (x + 1), v1, v2, v3, v4, v5]))) (hB : q_By h (x + 1) ra ma g sz F) (hs : sz + 20 ≤ 16384) (hr : ra < n) (hx : x + 1 < n)
    (hq : ∀ h' g' row', (row' = ra ∨ n ≤ row') → row' < n + GC ma (sz + 20) → (∀ b, b < n → b ≠ x + 1 → b ≠ ra → h' b = h b) → q_By h' (x + 1) row' (GL ma (sz + 20)) g' (sz + 20) (FW (FW (FW (FW (FW F sz a) (sz + 4) b) (sz + 8) c) (sz + 12) e) (sz + 16) f) → Q (some (.int (nI (sz + 20)))) h' (n + GC ma (sz + 20))) : q_Call G l M_FO_feed (d + 3) (GC ma (sz + 20)) (GS ma (sz + 20)) [.ref x, .int a, .int b, .int c, .int e, .int f] h n Q := by
  have hz : sz ≤ 16384 := Nat.le_trans hB.2.2.1 hB.2.2.2.1
  have hB1 := hB.1
  have nx : ra ≠ x := hB.ne hO
  have hg := (GP_ok (m := ma) (k := sz + 20) hs hB.2.2.2.1).2.1
  refine q_in u_FO_feed (by rw [L_FO_feed]; exact Nat.le_of_ble_eq_true rfl) ?_
  rw [L_FO_feed]
  refine q_at o_FO_feed [15] 20 l_FO_feed_0 ?_
  simp -implicitDefEqProofs only [s_go, s_nil, s_cons, q_ins, s_op, s_i, s_j, s_a, s_v, s_li, s_lj, s_la, s_liO, s_ljO, s_laO, q_get, q_p1, q_p2, s_n2i, s_n2r, s_n2l, s_n2n, q_pad, q_ar, s_ob, s_obO, q_nth, s_ri, s_riO, s_rb, s_rbO, s_rzO, s_rl, s_rlO, s_rq, s_rqO, s_ry, s_ryO, s_dn, s_tl, s_tn, s_ap, s_an, s_ci, s_cr, s_ni, s_n0, s_n1, q_ags, q_cat, List.contains_nil, List.contains_cons, Nat.reduceBEq, Bool.or_false, Bool.false_or, Bool.true_or, Bool.false_eq_true, ↓reduceIte, Nat.le_refl, Nat.zero_le, true_and, and_true, Nat.reduceLeDiff, Nat.reduceAdd, Nat.add_zero, Nat.zero_add, List.length_cons, List.length_nil, List.set_cons_zero, List.set_cons_succ, Nat.reduceLT, s_fi, s_fl, s_fo, s_fa, s_f0, s_f1, s_set, s_ss, lg_cmp_ge, lg_cmp_le, lg_cmp_gt, lg_cmp_lt, lg_cmp_eq, s_brT, s_brF, s_10, w_FO_feed, r_FO_feed, l_FO_feed_0, l_FO_feed_15, f_7_12, f_7_43, ks_16364, kc_m1, kb_20, ml_7_46, w_By_makeRoom, ml_7_50, w_By_addWord, hO, hB1, show (nI sz ≤ 16364) = True from (fl_sz hz).trans (eq_true (by omega))]
  refine q_at o_FO_feed [] 20 l_FO_feed_15 ?_
  simp -implicitDefEqProofs only [s_go, s_nil, s_cons, q_ins, s_op, s_i, s_j, s_a, s_v, s_li, s_lj, s_la, s_liO, s_ljO, s_laO, q_get, q_p1, q_p2, s_n2i, s_n2r, s_n2l, s_n2n, q_pad, q_ar, s_ob, s_obO, q_nth, s_ri, s_riO, s_rb, s_rbO, s_rzO, s_rl, s_rlO, s_rq, s_rqO, s_ry, s_ryO, s_dn, s_tl, s_tn, s_ap, s_an, s_ci, s_cr, s_ni, s_n0, s_n1, q_ags, q_cat, List.contains_nil, List.contains_cons, Nat.reduceBEq, Bool.or_false, Bool.false_or, Bool.true_or, Bool.false_eq_true, ↓reduceIte, Nat.le_refl, Nat.zero_le, true_and, and_true, Nat.reduceLeDiff, Nat.reduceAdd, Nat.add_zero, Nat.zero_add, List.length_cons, List.length_nil, List.set_cons_zero, List.set_cons_succ, Nat.reduceLT, s_fi, s_fl, s_fo, s_fa, s_f0, s_f1, s_set, s_ss, lg_cmp_ge, lg_cmp_le, lg_cmp_gt, lg_cmp_lt, lg_cmp_eq, s_brT, s_brF, s_10, w_FO_feed, r_FO_feed, l_FO_feed_0, l_FO_feed_15, f_7_12, f_7_43, ks_16364, kc_m1, kb_20, ml_7_46, w_By_makeRoom, ml_7_50, w_By_addWord, hO, hB1, fl_20 hs]
  refine q_c1 (GC ma (sz + 20)) (GS ma (sz + 20)) (by rw [Nat.zero_add]; exact Nat.le_refl _) (by rw [Nat.zero_add]; exact Nat.le_refl _) ?_
  refine c_By_room hB hs hr hx ?_
  intro h1 g1 r1 p1 p2 t1 B1
  have o1 : h1 x = _ := (t1 x (by omega) (by omega) (by omega)).trans hO
  have nr1 : r1 ≠ x := B1.ne o1
  have step : ∀ {h1 h2 : q_H}, q_2 h1 h2 (x + 1) r1 → ∀ {e}, h1 x = some e → h2 x = some e := fun q e he => (q x (by omega) (by omega)).trans he
  have b1 := B1.1
  simp -implicitDefEqProofs only [s_go, s_nil, s_cons, q_ins, s_op, s_i, s_j, s_a, s_v, s_li, s_lj, s_la, s_liO, s_ljO, s_laO, q_get, q_p1, q_p2, s_n2i, s_n2r, s_n2l, s_n2n, q_pad, q_ar, s_ob, s_obO, q_nth, s_ri, s_riO, s_rb, s_rbO, s_rzO, s_rl, s_rlO, s_rq, s_rqO, s_ry, s_ryO, s_dn, s_tl, s_tn, s_ap, s_an, s_ci, s_cr, s_ni, s_n0, s_n1, q_ags, q_cat, List.contains_nil, List.contains_cons, Nat.reduceBEq, Bool.or_false, Bool.false_or, Bool.true_or, Bool.false_eq_true, ↓reduceIte, Nat.le_refl, Nat.zero_le, true_and, and_true, Nat.reduceLeDiff, Nat.reduceAdd, Nat.add_zero, Nat.zero_add, List.length_cons, List.length_nil, List.set_cons_zero, List.set_cons_succ, Nat.reduceLT, s_fi, s_fl, s_fo, s_fa, s_f0, s_f1, s_set, s_ss, lg_cmp_ge, lg_cmp_le, lg_cmp_gt, lg_cmp_lt, lg_cmp_eq, s_brT, s_brF, s_10, w_FO_feed, r_FO_feed, l_FO_feed_0, l_FO_feed_15, f_7_12, f_7_43, ks_16364, kc_m1, kb_20, ml_7_46, w_By_makeRoom, ml_7_50, w_By_addWord, o1, b1]
  refine q_c0 (Nat.le_refl _) (Nat.le_refl _) ?_
  refine c_By_addWord B1 (by omega) ?_
  intro h2 g2 t2 B2
  have o2 := step t2 o1
  have b2 := B2.1
  simp -implicitDefEqProofs only [s_go, s_nil, s_cons, q_ins, s_op, s_i, s_j, s_a, s_v, s_li, s_lj, s_la, s_liO, s_ljO, s_laO, q_get, q_p1, q_p2, s_n2i, s_n2r, s_n2l, s_n2n, q_pad, q_ar, s_ob, s_obO, q_nth, s_ri, s_riO, s_rb, s_rbO, s_rzO, s_rl, s_rlO, s_rq, s_rqO, s_ry, s_ryO, s_dn, s_tl, s_tn, s_ap, s_an, s_ci, s_cr, s_ni, s_n0, s_n1, q_ags, q_cat, List.contains_nil, List.contains_cons, Nat.reduceBEq, Bool.or_false, Bool.false_or, Bool.true_or, Bool.false_eq_true, ↓reduceIte, Nat.le_refl, Nat.zero_le, true_and, and_true, Nat.reduceLeDiff, Nat.reduceAdd, Nat.add_zero, Nat.zero_add, List.length_cons, List.length_nil, List.set_cons_zero, List.set_cons_succ, Nat.reduceLT, s_fi, s_fl, s_fo, s_fa, s_f0, s_f1, s_set, s_ss, lg_cmp_ge, lg_cmp_le, lg_cmp_gt, lg_cmp_lt, lg_cmp_eq, s_brT, s_brF, s_10, w_FO_feed, r_FO_feed, l_FO_feed_0, l_FO_feed_15, f_7_12, f_7_43, ks_16364, kc_m1, kb_20, ml_7_46, w_By_makeRoom, ml_7_50, w_By_addWord, o2, b2]
  refine q_c0 (Nat.le_refl _) (Nat.le_refl _) ?_
  refine c_By_addWord B2 (by omega) ?_
  intro h3 g3 t3 B3
  have o3 := step t3 o2
  have b3 := B3.1
  simp -implicitDefEqProofs only [s_go, s_nil, s_cons, q_ins, s_op, s_i, s_j, s_a, s_v, s_li, s_lj, s_la, s_liO, s_ljO, s_laO, q_get, q_p1, q_p2, s_n2i, s_n2r, s_n2l, s_n2n, q_pad, q_ar, s_ob, s_obO, q_nth, s_ri, s_riO, s_rb, s_rbO, s_rzO, s_rl, s_rlO, s_rq, s_rqO, s_ry, s_ryO, s_dn, s_tl, s_tn, s_ap, s_an, s_ci, s_cr, s_ni, s_n0, s_n1, q_ags, q_cat, List.contains_nil, List.contains_cons, Nat.reduceBEq, Bool.or_false, Bool.false_or, Bool.true_or, Bool.false_eq_true, ↓reduceIte, Nat.le_refl, Nat.zero_le, true_and, and_true, Nat.reduceLeDiff, Nat.reduceAdd, Nat.add_zero, Nat.zero_add, List.length_cons, List.length_nil, List.set_cons_zero, List.set_cons_succ, Nat.reduceLT, s_fi, s_fl, s_fo, s_fa, s_f0, s_f1, s_set, s_ss, lg_cmp_ge, lg_cmp_le, lg_cmp_gt, lg_cmp_lt, lg_cmp_eq, s_brT, s_brF, s_10, w_FO_feed, r_FO_feed, l_FO_feed_0, l_FO_feed_15, f_7_12, f_7_43, ks_16364, kc_m1, kb_20, ml_7_46, w_By_makeRoom, ml_7_50, w_By_addWord, o3, b3]
  refine q_c0 (Nat.le_refl _) (Nat.le_refl _) ?_
  refine c_By_addWord B3 (by omega) ?_
  intro h4 g4 t4 B4
  have o4 := step t4 o3
  have b4 := B4.1
  simp -implicitDefEqProofs only [s_go, s_nil, s_cons, q_ins, s_op, s_i, s_j, s_a, s_v, s_li, s_lj, s_la, s_liO, s_ljO, s_laO, q_get, q_p1, q_p2, s_n2i, s_n2r, s_n2l, s_n2n, q_pad, q_ar, s_ob, s_obO, q_nth, s_ri, s_riO, s_rb, s_rbO, s_rzO, s_rl, s_rlO, s_rq, s_rqO, s_ry, s_ryO, s_dn, s_tl, s_tn, s_ap, s_an, s_ci, s_cr, s_ni, s_n0, s_n1, q_ags, q_cat, List.contains_nil, List.contains_cons, Nat.reduceBEq, Bool.or_false, Bool.false_or, Bool.true_or, Bool.false_eq_true, ↓reduceIte, Nat.le_refl, Nat.zero_le, true_and, and_true, Nat.reduceLeDiff, Nat.reduceAdd, Nat.add_zero, Nat.zero_add, List.length_cons, List.length_nil, List.set_cons_zero, List.set_cons_succ, Nat.reduceLT, s_fi, s_fl, s_fo, s_fa, s_f0, s_f1, s_set, s_ss, lg_cmp_ge, lg_cmp_le, lg_cmp_gt, lg_cmp_lt, lg_cmp_eq, s_brT, s_brF, s_10, w_FO_feed, r_FO_feed, l_FO_feed_0, l_FO_feed_15, f_7_12, f_7_43, ks_16364, kc_m1, kb_20, ml_7_46, w_By_makeRoom, ml_7_50, w_By_addWord, o4, b4]
  refine q_c0 (Nat.le_refl _) (Nat.le_refl _) ?_
  refine c_By_addWord B4 (by omega) ?_
  intro h5 g5 t5 B5
  have o5 := step t5 o4
  have b5 := B5.1
  simp -implicitDefEqProofs only [s_go, s_nil, s_cons, q_ins, s_op, s_i, s_j, s_a, s_v, s_li, s_lj, s_la, s_liO, s_ljO, s_laO, q_get, q_p1, q_p2, s_n2i, s_n2r, s_n2l, s_n2n, q_pad, q_ar, s_ob, s_obO, q_nth, s_ri, s_riO, s_rb, s_rbO, s_rzO, s_rl, s_rlO, s_rq, s_rqO, s_ry, s_ryO, s_dn, s_tl, s_tn, s_ap, s_an, s_ci, s_cr, s_ni, s_n0, s_n1, q_ags, q_cat, List.contains_nil, List.contains_cons, Nat.reduceBEq, Bool.or_false, Bool.false_or, Bool.true_or, Bool.false_eq_true, ↓reduceIte, Nat.le_refl, Nat.zero_le, true_and, and_true, Nat.reduceLeDiff, Nat.reduceAdd, Nat.add_zero, Nat.zero_add, List.length_cons, List.length_nil, List.set_cons_zero, List.set_cons_succ, Nat.reduceLT, s_fi, s_fl, s_fo, s_fa, s_f0, s_f1, s_set, s_ss, lg_cmp_ge, lg_cmp_le, lg_cmp_gt, lg_cmp_lt, lg_cmp_eq, s_brT, s_brF, s_10, w_FO_feed, r_FO_feed, l_FO_feed_0, l_FO_feed_15, f_7_12, f_7_43, ks_16364, kc_m1, kb_20, ml_7_46, w_By_makeRoom, ml_7_50, w_By_addWord, o5, b5]
  refine q_c0 (Nat.le_refl _) (Nat.le_refl _) ?_
  refine c_By_addWord B5 (by omega) ?_
  intro h6 g6 t6 B6
  have o6 := step t6 o5
  have B6' := B6.1
  simp -implicitDefEqProofs only [s_go, s_nil, s_cons, q_ins, s_op, s_i, s_j, s_a, s_v, s_li, s_lj, s_la, s_liO, s_ljO, s_laO, q_get, q_p1, q_p2, s_n2i, s_n2r, s_n2l, s_n2n, q_pad, q_ar, s_ob, s_obO, q_nth, s_ri, s_riO, s_rb, s_rbO, s_rzO, s_rl, s_rlO, s_rq, s_rqO, s_ry, s_ryO, s_dn, s_tl, s_tn, s_ap, s_an, s_ci, s_cr, s_ni, s_n0, s_n1, q_ags, q_cat, List.contains_nil, List.contains_cons, Nat.reduceBEq, Bool.or_false, Bool.false_or, Bool.true_or, Bool.false_eq_true, ↓reduceIte, Nat.le_refl, Nat.zero_le, true_and, and_true, Nat.reduceLeDiff, Nat.reduceAdd, Nat.add_zero, Nat.zero_add, List.length_cons, List.length_nil, List.set_cons_zero, List.set_cons_succ, Nat.reduceLT, s_fi, s_fl, s_fo, s_fa, s_f0, s_f1, s_set, s_ss, lg_cmp_ge, lg_cmp_le, lg_cmp_gt, lg_cmp_lt, lg_cmp_eq, s_brT, s_brF, s_10, w_FO_feed, r_FO_feed, l_FO_feed_0, l_FO_feed_15, f_7_12, f_7_43, ks_16364, kc_m1, kb_20, ml_7_46, w_By_makeRoom, ml_7_50, w_By_addWord, o6, B6']
  refine hq h6 g6 r1 p1 p2 (fun b b1 b2 b3 => ?_) B6
  have b4 : b ≠ r1 := by omega
  rw [t6 b b2 b4, t5 b b2 b4, t4 b b2 b4, t3 b b2 b4, t2 b b2 b4, t1 b b1 b2 b3]
set_option maxRecDepth 100000 in
set_option maxHeartbeats 4000000 in
theorem c_FO_at {G : q_G} {l : Launch} {d x ra ma sz n : Nat} {v1 v2 v3 v4 v5 : Value} {i : Int32} {g : Nat → Int32} {F : Nat → Nat} {h : q_H} {Q : q_P} (hO : h x = some (.inr (7, [.ref (x + 1), v1, v2, v3, v4, v5]))) (hB : q_By h (x + 1) ra ma g sz F) (q1 : ∀ k, k < sz → i = nI k → Q (some (.int (nI (F k)))) h n) (q0 : (∀ k, k < sz → i ≠ nI k) → Q (some (.int (-1))) h n) : q_Call G l M_FO_at (d + 1) 0 0 [.ref x, .int i] h n Q := by
  have hz : sz ≤ 16384 := Nat.le_trans hB.2.2.1 hB.2.2.2.1
  have hB1 := hB.1
  refine q_in u_FO_at (by rw [L_FO_at]; exact Nat.le_of_ble_eq_true rfl) ?_
  rw [L_FO_at]
  refine q_at o_FO_at [] 20 l_FO_at_0 ?_
  simp -implicitDefEqProofs only [s_go, s_nil, s_cons, q_ins, s_op, s_i, s_j, s_a, s_v, s_li, s_lj, s_la, s_liO, s_ljO, s_laO, q_get, q_p1, q_p2, s_n2i, s_n2r, s_n2l, s_n2n, q_pad, q_ar, s_ob, s_obO, q_nth, s_ri, s_riO, s_rb, s_rbO, s_rzO, s_rl, s_rlO, s_rq, s_rqO, s_ry, s_ryO, s_dn, s_tl, s_tn, s_ap, s_an, s_ci, s_cr, s_ni, s_n0, s_n1, q_ags, q_cat, List.contains_nil, List.contains_cons, Nat.reduceBEq, Bool.or_false, Bool.false_or, Bool.true_or, Bool.false_eq_true, ↓reduceIte, Nat.le_refl, Nat.zero_le, true_and, and_true, Nat.reduceLeDiff, Nat.reduceAdd, Nat.add_zero, Nat.zero_add, List.length_cons, List.length_nil, List.set_cons_zero, List.set_cons_succ, Nat.reduceLT, s_fi, s_fl, s_fo, s_fa, s_f0, s_f1, s_set, s_ss, lg_cmp_ge, lg_cmp_le, lg_cmp_gt, lg_cmp_lt, lg_cmp_eq, s_brT, s_brF, s_10, w_FO_at, r_FO_at, l_FO_at_0, l_FO_at_26, l_FO_at_27, f_7_12, f_7_43, ml_7_65, w_By_u8, kc_m1, hO, hB1]
  refine ⟨fun z => q0 (nI_no (by omega) (Or.inl z)), fun z => ⟨fun z2 => q0 (nI_no (by omega) (Or.inr z2)), fun z2 => ?_⟩⟩
  refine q_c0 (Nat.le_refl _) (Nat.le_refl _) ?_
  refine c_By_u8 hB (fun k hk e => ?_) (fun no => ?_)
  · simp -implicitDefEqProofs only [s_go, s_nil, s_cons, q_ins, s_op, s_i, s_j, s_a, s_v, s_li, s_lj, s_la, s_liO, s_ljO, s_laO, q_get, q_p1, q_p2, s_n2i, s_n2r, s_n2l, s_n2n, q_pad, q_ar, s_ob, s_obO, q_nth, s_ri, s_riO, s_rb, s_rbO, s_rzO, s_rl, s_rlO, s_rq, s_rqO, s_ry, s_ryO, s_dn, s_tl, s_tn, s_ap, s_an, s_ci, s_cr, s_ni, s_n0, s_n1, q_ags, q_cat, List.contains_nil, List.contains_cons, Nat.reduceBEq, Bool.or_false, Bool.false_or, Bool.true_or, Bool.false_eq_true, ↓reduceIte, Nat.le_refl, Nat.zero_le, true_and, and_true, Nat.reduceLeDiff, Nat.reduceAdd, Nat.add_zero, Nat.zero_add, List.length_cons, List.length_nil, List.set_cons_zero, List.set_cons_succ, Nat.reduceLT, s_fi, s_fl, s_fo, s_fa, s_f0, s_f1, s_set, s_ss, lg_cmp_ge, lg_cmp_le, lg_cmp_gt, lg_cmp_lt, lg_cmp_eq, s_brT, s_brF, s_10, w_FO_at, r_FO_at, l_FO_at_0, l_FO_at_26, l_FO_at_27, f_7_12, f_7_43, ml_7_65, w_By_u8, kc_m1]
    exact q1 k hk e
  · exfalso
    rcases pk_ix i (n := sz) (by omega) with z3 | z3 | ⟨k, hk, e⟩
    · exact z z3
    · exact z2 z3
    · exact no k hk e
set_option maxRecDepth 100000 in
set_option maxHeartbeats 4000000 in
theorem c_FO_isGlyph {G : q_G} {l : Launch} {d x cur N n : Nat} {v0 v1 v3 v4 v5 : Value} {i em wd lp : Int32} {h : q_H} {Q : q_P} (hO : h x = some (.inr (7, [v0, v1, .ref cur, v3, v4, v5]))) (hC : h cur = some (e_Fo cur em (nI N) wd lp)) (hN : N < 65536) (q1 : ∀ k, k < N → i = nI k → Q (some (.int 1)) h n) (q0 : (∀ k, k < N → i ≠ nI k) → Q (some (.int 0)) h n) : q_Call G l M_FO_isGlyph d 0 0 [.ref x, .int i] h n Q := by
  unfold e_Fo at hC
  refine q_in u_FO_isGlyph (by rw [L_FO_isGlyph]; exact Nat.le_of_ble_eq_true rfl) ?_
  rw [L_FO_isGlyph]
  refine q_at o_FO_isGlyph [] 20 l_FO_isGlyph_0 ?_
  simp -implicitDefEqProofs only [s_go, s_nil, s_cons, q_ins, s_op, s_i, s_j, s_a, s_v, s_li, s_lj, s_la, s_liO, s_ljO, s_laO, q_get, q_p1, q_p2, s_n2i, s_n2r, s_n2l, s_n2n, q_pad, q_ar, s_ob, s_obO, q_nth, s_ri, s_riO, s_rb, s_rbO, s_rzO, s_rl, s_rlO, s_rq, s_rqO, s_ry, s_ryO, s_dn, s_tl, s_tn, s_ap, s_an, s_ci, s_cr, s_ni, s_n0, s_n1, q_ags, q_cat, List.contains_nil, List.contains_cons, Nat.reduceBEq, Bool.or_false, Bool.false_or, Bool.true_or, Bool.false_eq_true, ↓reduceIte, Nat.le_refl, Nat.zero_le, true_and, and_true, Nat.reduceLeDiff, Nat.reduceAdd, Nat.add_zero, Nat.zero_add, List.length_cons, List.length_nil, List.set_cons_zero, List.set_cons_succ, Nat.reduceLT, s_fi, s_fl, s_fo, s_fa, s_f0, s_f1, s_set, s_ss, lg_cmp_ge, lg_cmp_le, lg_cmp_gt, lg_cmp_lt, lg_cmp_eq, s_brT, s_brF, s_10, w_FO_isGlyph, r_FO_isGlyph, l_FO_isGlyph_0, l_FO_isGlyph_19, l_FO_isGlyph_20, f_7_19, f_7_86, kc_1, kc_0, hO, hC]
  refine ⟨fun z => q0 (nI_no (by omega) (Or.inl z)), fun z => ⟨fun z2 => q0 (nI_no (by omega) (Or.inr z2)), fun z2 => ?_⟩⟩
  rcases pk_ix i (n := N) (by omega) with z3 | z3 | ⟨k, hk, e⟩
  · exact absurd z3 z
  · exact absurd z3 z2
  · exact q1 k hk e
