/-! FontOutlines: put, cut, needFont, font, glyph where they return -/
set_option maxRecDepth 100000 in
set_option maxHeartbeats 4000000 in
theorem c_FO_putR {G : q_G} {l : Launch} {d x ra ma sz n k v : Nat} {v1 v2 v3 v4 v5 : Value} {g : Nat → Int32} {F : Nat → Nat} {h : q_H} {Q : q_P} (hO : h x = some (.inr (7, [.ref (x + 1), v1, v2, v3, v4, v5]))) (hB : q_By h (x + 1) ra ma g sz F) (hk : k < sz) (hv : v < 256) (hq : ∀ h' g', q_1 h h' ra → q_By h' (x + 1) ra ma g' sz (Fup F k v) → Q (some (.int (nI (F k)))) h' n) : q_Call G l M_FO_put (d + 1) 0 0 [.ref x, .int (nI k), .int (nI v)] h n Q := by
  have hz : sz ≤ 16384 := Nat.le_trans hB.2.2.1 hB.2.2.2.1
  have hB1 := hB.1
  refine q_in u_FO_put (by rw [L_FO_put]; exact Nat.le_of_ble_eq_true rfl) ?_
  rw [L_FO_put]
  refine q_at o_FO_put [15, 25, 36, 46] 20 l_FO_put_0 ?_
  simp -implicitDefEqProofs only [s_go, s_nil, s_cons, q_ins, s_op, s_i, s_j, s_a, s_v, s_li, s_lj, s_la, s_liO, s_ljO, s_laO, q_get, q_p1, q_p2, s_n2i, s_n2r, s_n2l, s_n2n, q_pad, q_ar, s_ob, s_obO, q_nth, s_ri, s_riO, s_rb, s_rbO, s_rzO, s_rl, s_rlO, s_rq, s_rqO, s_ry, s_ryO, s_dn, s_tl, s_tn, s_ap, s_an, s_ci, s_cr, s_ni, s_n0, s_n1, q_ags, q_cat, List.contains_nil, List.contains_cons, Nat.reduceBEq, Bool.or_false, Bool.false_or, Bool.true_or, Bool.false_eq_true, ↓reduceIte, Nat.le_refl, Nat.zero_le, true_and, and_true, Nat.reduceLeDiff, Nat.reduceAdd, Nat.add_zero, Nat.zero_add, List.length_cons, List.length_nil, List.set_cons_zero, List.set_cons_succ, Nat.reduceLT, s_fi, s_fl, s_fo, s_fa, s_f0, s_f1, s_set, s_ss, lg_cmp_ge, lg_cmp_le, lg_cmp_gt, lg_cmp_lt, lg_cmp_eq, s_brT, s_brF, s_10, w_FO_put, r_FO_put, l_FO_put_0, l_FO_put_25, l_FO_put_46, f_7_12, f_7_43, ks_255, ml_7_65, w_By_u8, ml_7_69, w_By_change, hO, hB1, show (nI k < 0) = False from eq_false (nI_pos (by omega)), show (nI k < nI sz) = True from eq_true ((nI_ltI (by omega) (by omega)).mpr hk)]
  refine q_at o_FO_put [36, 46] 20 l_FO_put_25 ?_
  simp -implicitDefEqProofs only [s_go, s_nil, s_cons, q_ins, s_op, s_i, s_j, s_a, s_v, s_li, s_lj, s_la, s_liO, s_ljO, s_laO, q_get, q_p1, q_p2, s_n2i, s_n2r, s_n2l, s_n2n, q_pad, q_ar, s_ob, s_obO, q_nth, s_ri, s_riO, s_rb, s_rbO, s_rzO, s_rl, s_rlO, s_rq, s_rqO, s_ry, s_ryO, s_dn, s_tl, s_tn, s_ap, s_an, s_ci, s_cr, s_ni, s_n0, s_n1, q_ags, q_cat, List.contains_nil, List.contains_cons, Nat.reduceBEq, Bool.or_false, Bool.false_or, Bool.true_or, Bool.false_eq_true, ↓reduceIte, Nat.le_refl, Nat.zero_le, true_and, and_true, Nat.reduceLeDiff, Nat.reduceAdd, Nat.add_zero, Nat.zero_add, List.length_cons, List.length_nil, List.set_cons_zero, List.set_cons_succ, Nat.reduceLT, s_fi, s_fl, s_fo, s_fa, s_f0, s_f1, s_set, s_ss, lg_cmp_ge, lg_cmp_le, lg_cmp_gt, lg_cmp_lt, lg_cmp_eq, s_brT, s_brF, s_10, w_FO_put, r_FO_put, l_FO_put_0, l_FO_put_25, l_FO_put_46, f_7_12, f_7_43, ks_255, ml_7_65, w_By_u8, ml_7_69, w_By_change, show (nI v < 0) = False from eq_false (nI_pos (by omega)), show (nI v ≤ 255) = True from eq_true ((nI_leI (a := v) (b := 255) (by omega) (by omega)).mpr (by omega))]
  refine q_at o_FO_put [] 20 l_FO_put_46 ?_
  simp -implicitDefEqProofs only [s_go, s_nil, s_cons, q_ins, s_op, s_i, s_j, s_a, s_v, s_li, s_lj, s_la, s_liO, s_ljO, s_laO, q_get, q_p1, q_p2, s_n2i, s_n2r, s_n2l, s_n2n, q_pad, q_ar, s_ob, s_obO, q_nth, s_ri, s_riO, s_rb, s_rbO, s_rzO, s_rl, s_rlO, s_rq, s_rqO, s_ry, s_ryO, s_dn, s_tl, s_tn, s_ap, s_an, s_ci, s_cr, s_ni, s_n0, s_n1, q_ags, q_cat, List.contains_nil, List.contains_cons, Nat.reduceBEq, Bool.or_false, Bool.false_or, Bool.true_or, Bool.false_eq_true, ↓reduceIte, Nat.le_refl, Nat.zero_le, true_and, and_true, Nat.reduceLeDiff, Nat.reduceAdd, Nat.add_zero, Nat.zero_add, List.length_cons, List.length_nil, List.set_cons_zero, List.set_cons_succ, Nat.reduceLT, s_fi, s_fl, s_fo, s_fa, s_f0, s_f1, s_set, s_ss, lg_cmp_ge, lg_cmp_le, lg_cmp_gt, lg_cmp_lt, lg_cmp_eq, s_brT, s_brF, s_10, w_FO_put, r_FO_put, l_FO_put_0, l_FO_put_25, l_FO_put_46, f_7_12, f_7_43, ks_255, ml_7_65, w_By_u8, ml_7_69, w_By_change, hO, hB1]
  refine q_c0 (Nat.le_refl _) (Nat.le_refl _) ?_
  refine c_By_u8 hB (fun k' hk' e => ?_) (fun no => absurd rfl (no k hk))
  have e' : k' = k := by
    have := congrArg Int32.toNatClampNeg e
    rw [nI_clamp (by omega), nI_clamp (by omega)] at this
    exact this.symm
  subst e'
  simp -implicitDefEqProofs only [s_go, s_nil, s_cons, q_ins, s_op, s_i, s_j, s_a, s_v, s_li, s_lj, s_la, s_liO, s_ljO, s_laO, q_get, q_p1, q_p2, s_n2i, s_n2r, s_n2l, s_n2n, q_pad, q_ar, s_ob, s_obO, q_nth, s_ri, s_riO, s_rb, s_rbO, s_rzO, s_rl, s_rlO, s_rq, s_rqO, s_ry, s_ryO, s_dn, s_tl, s_tn, s_ap, s_an, s_ci, s_cr, s_ni, s_n0, s_n1, q_ags, q_cat, List.contains_nil, List.contains_cons, Nat.reduceBEq, Bool.or_false, Bool.false_or, Bool.true_or, Bool.false_eq_true, ↓reduceIte, Nat.le_refl, Nat.zero_le, true_and, and_true, Nat.reduceLeDiff, Nat.reduceAdd, Nat.add_zero, Nat.zero_add, List.length_cons, List.length_nil, List.set_cons_zero, List.set_cons_succ, Nat.reduceLT, s_fi, s_fl, s_fo, s_fa, s_f0, s_f1, s_set, s_ss, lg_cmp_ge, lg_cmp_le, lg_cmp_gt, lg_cmp_lt, lg_cmp_eq, s_brT, s_brF, s_10, w_FO_put, r_FO_put, l_FO_put_0, l_FO_put_25, l_FO_put_46, f_7_12, f_7_43, ks_255, ml_7_65, w_By_u8, ml_7_69, w_By_change, hO, hB1]
  refine q_c0 (Nat.le_refl _) (Nat.le_refl _) ?_
  refine c_By_change hB hk hv (fun h' g' t B' => ?_)
  simp -implicitDefEqProofs only [s_go, s_nil, s_cons, q_ins, s_op, s_i, s_j, s_a, s_v, s_li, s_lj, s_la, s_liO, s_ljO, s_laO, q_get, q_p1, q_p2, s_n2i, s_n2r, s_n2l, s_n2n, q_pad, q_ar, s_ob, s_obO, q_nth, s_ri, s_riO, s_rb, s_rbO, s_rzO, s_rl, s_rlO, s_rq, s_rqO, s_ry, s_ryO, s_dn, s_tl, s_tn, s_ap, s_an, s_ci, s_cr, s_ni, s_n0, s_n1, q_ags, q_cat, List.contains_nil, List.contains_cons, Nat.reduceBEq, Bool.or_false, Bool.false_or, Bool.true_or, Bool.false_eq_true, ↓reduceIte, Nat.le_refl, Nat.zero_le, true_and, and_true, Nat.reduceLeDiff, Nat.reduceAdd, Nat.add_zero, Nat.zero_add, List.length_cons, List.length_nil, List.set_cons_zero, List.set_cons_succ, Nat.reduceLT, s_fi, s_fl, s_fo, s_fa, s_f0, s_f1, s_set, s_ss, lg_cmp_ge, lg_cmp_le, lg_cmp_gt, lg_cmp_lt, lg_cmp_eq, s_brT, s_brF, s_10, w_FO_put, r_FO_put, l_FO_put_0, l_FO_put_25, l_FO_put_46, f_7_12, f_7_43, ks_255, ml_7_65, w_By_u8, ml_7_69, w_By_change]
  exact hq h' g' t B'
theorem q_By.cut {h h' : q_H} {f row m sz s' : Nat} {g : Nat → Int32} {F : Nat → Nat} (hB : q_By h f row m g sz F) (hs : s' ≤ sz) (h1 : h' f = some (.inr (0, [.ref row, .int (nI s')]))) (h2 : h' row = h row) : q_By h' f row m g s' F := by
  obtain ⟨b1, b2, b3, b4, b5, b6, b7⟩ := hB
  exact ⟨h1, h2.trans b2, by omega, b4, fun j hj => b5 j (by omega), b6, b7⟩
set_option maxRecDepth 100000 in
set_option maxHeartbeats 4000000 in
theorem c_FO_cutR {G : q_G} {l : Launch} {d x ra ma sz n k : Nat} {v1 v2 v3 v4 v5 : Value} {g : Nat → Int32} {F : Nat → Nat} {h : q_H} {Q : q_P} (hO : h x = some (.inr (7, [.ref (x + 1), v1, v2, v3, v4, v5]))) (hB : q_By h (x + 1) ra ma g sz F) (hk : k < 2 ^ 31) (hq : ∀ h', q_1 h h' (x + 1) → q_By h' (x + 1) ra ma g (sz - (sz - k)) F → Q (some (.int (nI (sz - k)))) h' n) : q_Call G l M_FO_cut d 0 0 [.ref x, .int (nI k)] h n Q := by
  have hz : sz ≤ 16384 := Nat.le_trans hB.2.2.1 hB.2.2.2.1
  have hB1 := hB.1
  have nr := hB.nr
  have J : ∀ gn : Nat, gn = sz - k → q_Z G l M_FO_cut d 0 0 Q 38 [some (.ref x), some (.int (nI k)), none] [.int (nI gn)] h n 0 0 := by
    intro gn eg
    refine q_at o_FO_cut [] 20 l_FO_cut_38 ?_
    simp -implicitDefEqProofs only [s_go, s_nil, s_cons, q_ins, s_op, s_i, s_j, s_a, s_v, s_li, s_lj, s_la, s_liO, s_ljO, s_laO, q_get, q_p1, q_p2, s_n2i, s_n2r, s_n2l, s_n2n, q_pad, q_ar, s_ob, s_obO, q_nth, s_ri, s_riO, s_rb, s_rbO, s_rzO, s_rl, s_rlO, s_rq, s_rqO, s_ry, s_ryO, s_dn, s_tl, s_tn, s_ap, s_an, s_ci, s_cr, s_ni, s_n0, s_n1, q_ags, q_cat, List.contains_nil, List.contains_cons, Nat.reduceBEq, Bool.or_false, Bool.false_or, Bool.true_or, Bool.false_eq_true, ↓reduceIte, Nat.le_refl, Nat.zero_le, true_and, and_true, Nat.reduceLeDiff, Nat.reduceAdd, Nat.add_zero, Nat.zero_add, List.length_cons, List.length_nil, List.set_cons_zero, List.set_cons_succ, Nat.reduceLT, s_fi, s_fl, s_fo, s_fa, s_f0, s_f1, s_set, s_ss, lg_cmp_ge, lg_cmp_le, lg_cmp_gt, lg_cmp_lt, lg_cmp_eq, s_brT, s_brF, s_10, w_FO_cut, r_FO_cut, l_FO_cut_0, l_FO_cut_14, l_FO_cut_37, l_FO_cut_38, f_7_12, f_7_43, kc_0, ty_0_1, hO, hB1]
    rw [show nI sz - nI gn = nI (sz - gn) from pk_sub (by omega), eg]
    exact hq _ (fun b hb => s_ne _ _ hb) (hB.cut (by omega) (s_set _ _ _) (s_ne _ _ nr.symm))
  refine q_in u_FO_cut (by rw [L_FO_cut]; exact Nat.le_of_ble_eq_true rfl) ?_
  rw [L_FO_cut]
  refine q_at o_FO_cut [4, 14] 20 l_FO_cut_0 ?_
  simp -implicitDefEqProofs only [s_go, s_nil, s_cons, q_ins, s_op, s_i, s_j, s_a, s_v, s_li, s_lj, s_la, s_liO, s_ljO, s_laO, q_get, q_p1, q_p2, s_n2i, s_n2r, s_n2l, s_n2n, q_pad, q_ar, s_ob, s_obO, q_nth, s_ri, s_riO, s_rb, s_rbO, s_rzO, s_rl, s_rlO, s_rq, s_rqO, s_ry, s_ryO, s_dn, s_tl, s_tn, s_ap, s_an, s_ci, s_cr, s_ni, s_n0, s_n1, q_ags, q_cat, List.contains_nil, List.contains_cons, Nat.reduceBEq, Bool.or_false, Bool.false_or, Bool.true_or, Bool.false_eq_true, ↓reduceIte, Nat.le_refl, Nat.zero_le, true_and, and_true, Nat.reduceLeDiff, Nat.reduceAdd, Nat.add_zero, Nat.zero_add, List.length_cons, List.length_nil, List.set_cons_zero, List.set_cons_succ, Nat.reduceLT, s_fi, s_fl, s_fo, s_fa, s_f0, s_f1, s_set, s_ss, lg_cmp_ge, lg_cmp_le, lg_cmp_gt, lg_cmp_lt, lg_cmp_eq, s_brT, s_brF, s_10, w_FO_cut, r_FO_cut, l_FO_cut_0, l_FO_cut_14, l_FO_cut_37, l_FO_cut_38, f_7_12, f_7_43, kc_0, ty_0_1, show ((0 : Int32) ≤ nI k) = True from eq_true (by rw [← Int32.not_lt]; exact nI_pos hk)]
  refine q_at o_FO_cut [37, 38] 20 l_FO_cut_14 ?_
  simp -implicitDefEqProofs only [s_go, s_nil, s_cons, q_ins, s_op, s_i, s_j, s_a, s_v, s_li, s_lj, s_la, s_liO, s_ljO, s_laO, q_get, q_p1, q_p2, s_n2i, s_n2r, s_n2l, s_n2n, q_pad, q_ar, s_ob, s_obO, q_nth, s_ri, s_riO, s_rb, s_rbO, s_rzO, s_rl, s_rlO, s_rq, s_rqO, s_ry, s_ryO, s_dn, s_tl, s_tn, s_ap, s_an, s_ci, s_cr, s_ni, s_n0, s_n1, q_ags, q_cat, List.contains_nil, List.contains_cons, Nat.reduceBEq, Bool.or_false, Bool.false_or, Bool.true_or, Bool.false_eq_true, ↓reduceIte, Nat.le_refl, Nat.zero_le, true_and, and_true, Nat.reduceLeDiff, Nat.reduceAdd, Nat.add_zero, Nat.zero_add, List.length_cons, List.length_nil, List.set_cons_zero, List.set_cons_succ, Nat.reduceLT, s_fi, s_fl, s_fo, s_fa, s_f0, s_f1, s_set, s_ss, lg_cmp_ge, lg_cmp_le, lg_cmp_gt, lg_cmp_lt, lg_cmp_eq, s_brT, s_brF, s_10, w_FO_cut, r_FO_cut, l_FO_cut_0, l_FO_cut_14, l_FO_cut_37, l_FO_cut_38, f_7_12, f_7_43, kc_0, ty_0_1, hO, hB1]
  refine ⟨fun z => ?_, fun z => ?_⟩
  · have z' : sz ≤ k := (nI_leI (by omega) hk).mp z
    refine q_at o_FO_cut [38] 20 l_FO_cut_37 ?_
    simp -implicitDefEqProofs only [s_go, s_nil, s_cons, q_ins, s_op, s_i, s_j, s_a, s_v, s_li, s_lj, s_la, s_liO, s_ljO, s_laO, q_get, q_p1, q_p2, s_n2i, s_n2r, s_n2l, s_n2n, q_pad, q_ar, s_ob, s_obO, q_nth, s_ri, s_riO, s_rb, s_rbO, s_rzO, s_rl, s_rlO, s_rq, s_rqO, s_ry, s_ryO, s_dn, s_tl, s_tn, s_ap, s_an, s_ci, s_cr, s_ni, s_n0, s_n1, q_ags, q_cat, List.contains_nil, List.contains_cons, Nat.reduceBEq, Bool.or_false, Bool.false_or, Bool.true_or, Bool.false_eq_true, ↓reduceIte, Nat.le_refl, Nat.zero_le, true_and, and_true, Nat.reduceLeDiff, Nat.reduceAdd, Nat.add_zero, Nat.zero_add, List.length_cons, List.length_nil, List.set_cons_zero, List.set_cons_succ, Nat.reduceLT, s_fi, s_fl, s_fo, s_fa, s_f0, s_f1, s_set, s_ss, lg_cmp_ge, lg_cmp_le, lg_cmp_gt, lg_cmp_lt, lg_cmp_eq, s_brT, s_brF, s_10, w_FO_cut, r_FO_cut, l_FO_cut_0, l_FO_cut_14, l_FO_cut_37, l_FO_cut_38, f_7_12, f_7_43, kc_0, ty_0_1]
    exact J 0 (by omega)
  · have z' : ¬ sz ≤ k := fun q => z ((nI_leI (by omega) hk).mpr q)
    rw [show nI sz - nI k = nI (sz - k) from pk_sub (by omega)]
    exact J _ rfl
set_option maxRecDepth 100000 in
set_option maxHeartbeats 4000000 in
theorem c_FO_needR {G : q_G} {l : Launch} {d x n : Nat} {v0 v1 v2 v3 v5 : Value} {h : q_H} {Q : q_P} (hO : h x = some (.inr (7, [v0, v1, v2, v3, .int 1, v5]))) (hq : Q none h n) : q_Call G l M_FO_needFont d 0 0 [.ref x] h n Q := by
  refine q_in u_FO_needFont (by rw [L_FO_needFont]; exact Nat.le_of_ble_eq_true rfl) ?_
  rw [L_FO_needFont]
  refine q_at o_FO_needFont [7, 17] 20 l_FO_needFont_0 ?_
  simp -implicitDefEqProofs only [s_go, s_nil, s_cons, q_ins, s_op, s_i, s_j, s_a, s_v, s_li, s_lj, s_la, s_liO, s_ljO, s_laO, q_get, q_p1, q_p2, s_n2i, s_n2r, s_n2l, s_n2n, q_pad, q_ar, s_ob, s_obO, q_nth, s_ri, s_riO, s_rb, s_rbO, s_rzO, s_rl, s_rlO, s_rq, s_rqO, s_ry, s_ryO, s_dn, s_tl, s_tn, s_ap, s_an, s_ci, s_cr, s_ni, s_n0, s_n1, q_ags, q_cat, List.contains_nil, List.contains_cons, Nat.reduceBEq, Bool.or_false, Bool.false_or, Bool.true_or, Bool.false_eq_true, ↓reduceIte, Nat.le_refl, Nat.zero_le, true_and, and_true, Nat.reduceLeDiff, Nat.reduceAdd, Nat.add_zero, Nat.zero_add, List.length_cons, List.length_nil, List.set_cons_zero, List.set_cons_succ, Nat.reduceLT, s_fi, s_fl, s_fo, s_fa, s_f0, s_f1, s_set, s_ss, lg_cmp_ge, lg_cmp_le, lg_cmp_gt, lg_cmp_lt, lg_cmp_eq, s_brT, s_brF, s_10, w_FO_needFont, r_FO_needFont, l_FO_needFont_0, l_FO_needFont_17, f_7_35, hO, show ((1 : Int32) = 0) = False from eq_false (by decide)]
  refine q_at o_FO_needFont [] 20 l_FO_needFont_17 ?_
  simp -implicitDefEqProofs only [s_go, s_nil, s_cons, q_ins, s_op, s_i, s_j, s_a, s_v, s_li, s_lj, s_la, s_liO, s_ljO, s_laO, q_get, q_p1, q_p2, s_n2i, s_n2r, s_n2l, s_n2n, q_pad, q_ar, s_ob, s_obO, q_nth, s_ri, s_riO, s_rb, s_rbO, s_rzO, s_rl, s_rlO, s_rq, s_rqO, s_ry, s_ryO, s_dn, s_tl, s_tn, s_ap, s_an, s_ci, s_cr, s_ni, s_n0, s_n1, q_ags, q_cat, List.contains_nil, List.contains_cons, Nat.reduceBEq, Bool.or_false, Bool.false_or, Bool.true_or, Bool.false_eq_true, ↓reduceIte, Nat.le_refl, Nat.zero_le, true_and, and_true, Nat.reduceLeDiff, Nat.reduceAdd, Nat.add_zero, Nat.zero_add, List.length_cons, List.length_nil, List.set_cons_zero, List.set_cons_succ, Nat.reduceLT, s_fi, s_fl, s_fo, s_fa, s_f0, s_f1, s_set, s_ss, lg_cmp_ge, lg_cmp_le, lg_cmp_gt, lg_cmp_lt, lg_cmp_eq, s_brT, s_brF, s_10, w_FO_needFont, r_FO_needFont, l_FO_needFont_0, l_FO_needFont_17, f_7_35]
  exact hq
theorem fo_lp {F : Nat → Nat} {sz : Nat} (hb : ∀ j, F j < 256) (hm : MAP_ok F (t_cm F sz).1 (t_cm F sz).2) (hc : (t_cm F sz).2 ≤ 16384) : mp_p F sz ≤ 16384 ∧ mp_n F sz ≤ 16384 := by
  obtain ⟨-, m1, m2⟩ := mp_some hm
  unfold mp_n
  by_cases c : mp_w F sz = true
  · obtain ⟨a1, a2, a3, -⟩ := m1 c
    rw [if_pos c]
    omega
  · have c' : mp_w F sz = false := by cases e : mp_w F sz with
      | true => exact absurd e c
      | false => rfl
    obtain ⟨a1, a2, a3, a4, a5, -⟩ := m2 c'
    rw [if_neg c]
    omega
set_option maxRecDepth 100000 in
set_option maxHeartbeats 4000000 in
theorem c_FO_fontR {G : q_G} {l : Launch} {d x cur n sz k : Nat} {v0 v1 v3 v5 : Value} {F : Nat → Nat} {h : q_H} {Q : q_P} (hO : h x = some (.inr (7, [v0, v1, .ref cur, v3, .int 1, v5]))) (hK : FoK h cur F sz) (hk : k < 2) (hq : Q (some (.int (if k = 0 then nI (f_EM F sz) else bI (mp_w F sz)))) h n) : q_Call G l M_FO_font (d + 1) 0 0 [.ref x, .int (nI k)] h n Q := by
  have K1 := hK.1
  have K2 := hK.2.2.2.2.2.2.2.2.2
  unfold e_Fo at K1
  unfold e_Cm at K2
  refine q_in u_FO_font (by rw [L_FO_font]; exact Nat.le_of_ble_eq_true rfl) ?_
  rw [L_FO_font]
  refine q_at o_FO_font [13, 23] 20 l_FO_font_0 ?_
  simp -implicitDefEqProofs only [s_go, s_nil, s_cons, q_ins, s_op, s_i, s_j, s_a, s_v, s_li, s_lj, s_la, s_liO, s_ljO, s_laO, q_get, q_p1, q_p2, s_n2i, s_n2r, s_n2l, s_n2n, q_pad, q_ar, s_ob, s_obO, q_nth, s_ri, s_riO, s_rb, s_rbO, s_rzO, s_rl, s_rlO, s_rq, s_rqO, s_ry, s_ryO, s_dn, s_tl, s_tn, s_ap, s_an, s_ci, s_cr, s_ni, s_n0, s_n1, q_ags, q_cat, List.contains_nil, List.contains_cons, Nat.reduceBEq, Bool.or_false, Bool.false_or, Bool.true_or, Bool.false_eq_true, ↓reduceIte, Nat.le_refl, Nat.zero_le, true_and, and_true, Nat.reduceLeDiff, Nat.reduceAdd, Nat.add_zero, Nat.zero_add, List.length_cons, List.length_nil, List.set_cons_zero, List.set_cons_succ, Nat.reduceLT, s_fi, s_fl, s_fo, s_fa, s_f0, s_f1, s_set, s_ss, lg_cmp_ge, lg_cmp_le, lg_cmp_gt, lg_cmp_lt, lg_cmp_eq, s_brT, s_brF, s_10, w_FO_font, r_FO_font, l_FO_font_0, l_FO_font_23, l_FO_font_35, l_FO_font_52, l_FO_font_53, ml_7_89, w_FO_needFont, kc_1, f_7_19, f_7_155, f_7_95, f_7_158, kc_0, hO]
  refine q_c0 (Nat.le_refl _) (Nat.le_refl _) ?_
  refine c_FO_needR hO ?_
  simp -implicitDefEqProofs only [s_go, s_nil, s_cons, q_ins, s_op, s_i, s_j, s_a, s_v, s_li, s_lj, s_la, s_liO, s_ljO, s_laO, q_get, q_p1, q_p2, s_n2i, s_n2r, s_n2l, s_n2n, q_pad, q_ar, s_ob, s_obO, q_nth, s_ri, s_riO, s_rb, s_rbO, s_rzO, s_rl, s_rlO, s_rq, s_rqO, s_ry, s_ryO, s_dn, s_tl, s_tn, s_ap, s_an, s_ci, s_cr, s_ni, s_n0, s_n1, q_ags, q_cat, List.contains_nil, List.contains_cons, Nat.reduceBEq, Bool.or_false, Bool.false_or, Bool.true_or, Bool.false_eq_true, ↓reduceIte, Nat.le_refl, Nat.zero_le, true_and, and_true, Nat.reduceLeDiff, Nat.reduceAdd, Nat.add_zero, Nat.zero_add, List.length_cons, List.length_nil, List.set_cons_zero, List.set_cons_succ, Nat.reduceLT, s_fi, s_fl, s_fo, s_fa, s_f0, s_f1, s_set, s_ss, lg_cmp_ge, lg_cmp_le, lg_cmp_gt, lg_cmp_lt, lg_cmp_eq, s_brT, s_brF, s_10, w_FO_font, r_FO_font, l_FO_font_0, l_FO_font_23, l_FO_font_35, l_FO_font_52, l_FO_font_53, ml_7_89, w_FO_needFont, kc_1, f_7_19, f_7_155, f_7_95, f_7_158, kc_0, show (nI k < 0) = False from eq_false (nI_pos (by omega)), show (nI k ≤ 1) = True from eq_true ((nI_leI (a := k) (b := 1) (by omega) (by omega)).mpr (by omega))]
  refine q_at o_FO_font [35] 20 l_FO_font_23 ?_
  by_cases c : k = 0
  · subst c
    rw [if_pos rfl] at hq
    simp -implicitDefEqProofs only [s_go, s_nil, s_cons, q_ins, s_op, s_i, s_j, s_a, s_v, s_li, s_lj, s_la, s_liO, s_ljO, s_laO, q_get, q_p1, q_p2, s_n2i, s_n2r, s_n2l, s_n2n, q_pad, q_ar, s_ob, s_obO, q_nth, s_ri, s_riO, s_rb, s_rbO, s_rzO, s_rl, s_rlO, s_rq, s_rqO, s_ry, s_ryO, s_dn, s_tl, s_tn, s_ap, s_an, s_ci, s_cr, s_ni, s_n0, s_n1, q_ags, q_cat, List.contains_nil, List.contains_cons, Nat.reduceBEq, Bool.or_false, Bool.false_or, Bool.true_or, Bool.false_eq_true, ↓reduceIte, Nat.le_refl, Nat.zero_le, true_and, and_true, Nat.reduceLeDiff, Nat.reduceAdd, Nat.add_zero, Nat.zero_add, List.length_cons, List.length_nil, List.set_cons_zero, List.set_cons_succ, Nat.reduceLT, s_fi, s_fl, s_fo, s_fa, s_f0, s_f1, s_set, s_ss, lg_cmp_ge, lg_cmp_le, lg_cmp_gt, lg_cmp_lt, lg_cmp_eq, s_brT, s_brF, s_10, w_FO_font, r_FO_font, l_FO_font_0, l_FO_font_23, l_FO_font_35, l_FO_font_52, l_FO_font_53, ml_7_89, w_FO_needFont, kc_1, f_7_19, f_7_155, f_7_95, f_7_158, kc_0, hO, K1, show (nI 0 = 0) = True from eq_true rfl]
    exact hq
  · rw [if_neg c] at hq
    have c' : k = 1 := by omega
    subst c'
    simp -implicitDefEqProofs only [s_go, s_nil, s_cons, q_ins, s_op, s_i, s_j, s_a, s_v, s_li, s_lj, s_la, s_liO, s_ljO, s_laO, q_get, q_p1, q_p2, s_n2i, s_n2r, s_n2l, s_n2n, q_pad, q_ar, s_ob, s_obO, q_nth, s_ri, s_riO, s_rb, s_rbO, s_rzO, s_rl, s_rlO, s_rq, s_rqO, s_ry, s_ryO, s_dn, s_tl, s_tn, s_ap, s_an, s_ci, s_cr, s_ni, s_n0, s_n1, q_ags, q_cat, List.contains_nil, List.contains_cons, Nat.reduceBEq, Bool.or_false, Bool.false_or, Bool.true_or, Bool.false_eq_true, ↓reduceIte, Nat.le_refl, Nat.zero_le, true_and, and_true, Nat.reduceLeDiff, Nat.reduceAdd, Nat.add_zero, Nat.zero_add, List.length_cons, List.length_nil, List.set_cons_zero, List.set_cons_succ, Nat.reduceLT, s_fi, s_fl, s_fo, s_fa, s_f0, s_f1, s_set, s_ss, lg_cmp_ge, lg_cmp_le, lg_cmp_gt, lg_cmp_lt, lg_cmp_eq, s_brT, s_brF, s_10, w_FO_font, r_FO_font, l_FO_font_0, l_FO_font_23, l_FO_font_35, l_FO_font_52, l_FO_font_53, ml_7_89, w_FO_needFont, kc_1, f_7_19, f_7_155, f_7_95, f_7_158, kc_0, show (nI 1 = 0) = False from eq_false (by decide)]
    refine q_at o_FO_font [] 20 l_FO_font_35 ?_
    simp -implicitDefEqProofs only [s_go, s_nil, s_cons, q_ins, s_op, s_i, s_j, s_a, s_v, s_li, s_lj, s_la, s_liO, s_ljO, s_laO, q_get, q_p1, q_p2, s_n2i, s_n2r, s_n2l, s_n2n, q_pad, q_ar, s_ob, s_obO, q_nth, s_ri, s_riO, s_rb, s_rbO, s_rzO, s_rl, s_rlO, s_rq, s_rqO, s_ry, s_ryO, s_dn, s_tl, s_tn, s_ap, s_an, s_ci, s_cr, s_ni, s_n0, s_n1, q_ags, q_cat, List.contains_nil, List.contains_cons, Nat.reduceBEq, Bool.or_false, Bool.false_or, Bool.true_or, Bool.false_eq_true, ↓reduceIte, Nat.le_refl, Nat.zero_le, true_and, and_true, Nat.reduceLeDiff, Nat.reduceAdd, Nat.add_zero, Nat.zero_add, List.length_cons, List.length_nil, List.set_cons_zero, List.set_cons_succ, Nat.reduceLT, s_fi, s_fl, s_fo, s_fa, s_f0, s_f1, s_set, s_ss, lg_cmp_ge, lg_cmp_le, lg_cmp_gt, lg_cmp_lt, lg_cmp_eq, s_brT, s_brF, s_10, w_FO_font, r_FO_font, l_FO_font_0, l_FO_font_23, l_FO_font_35, l_FO_font_52, l_FO_font_53, ml_7_89, w_FO_needFont, kc_1, f_7_19, f_7_155, f_7_95, f_7_158, kc_0, hO, K1, K2]
    cases e : mp_w F sz with
    | true =>
      rw [e] at hq
      refine ⟨fun z => absurd z (by decide), fun _ => hq⟩
    | false =>
      rw [e] at hq
      refine ⟨fun _ => hq, fun z => absurd rfl z⟩
