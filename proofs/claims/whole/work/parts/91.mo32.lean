/-! the reference: segmentGlyph, glyph -/
def cap (N v : Nat) : Nat := if v < N then v else 0
theorem cap_0 (N : Nat) : cap N 0 = 0 := by unfold cap; split <;> rfl
set_option maxRecDepth 100000 in
set_option maxHeartbeats 4000000 in
theorem y_Mo_segmentGlyph {G : q_G} {l : Launch} {d y n sz v dl c : Nat} {fa si fo wi of_ pr le : Int32} {x2 x4 x5 x6 x8 x10 x12 : Option Value} {b : Bool} {F : Nat → Nat} {h : q_H} {Q : q_P} (R : MoR h y of_ F sz) (hv : v < 65536) (hdl : dl < 65536) (hq : ∀ b, Q (some (.int (nI (cap (f_N F sz) ((v + dl) % 65536))))) (Mh h y fa si fo wi of_ (bI b) pr le) n) :
    q_Z G l M_Mo_segmentGlyph (d + 5) 0 0 Q 211 [some (.ref y), some (.int (nI c)), x2, none, x4, x5, x6, some (.int (nI dl)), x8, none, x10, some (.int (nI v)), x12, none] [] (Mh h y fa si fo wi of_ (bI b) pr le) n 0 0 := by
  have hb := R.2.2.2.1
  have bN : f_N F sz < 65536 := U16_lt hb _ _ 4
  refine q_at o_Mo_segmentGlyph [] 20 l_Mo_segmentGlyph_211 ?_
  simp -implicitDefEqProofs only [s_go, s_nil, s_cons, q_ins, s_op, s_i, s_j, s_a, s_v, s_li, s_lj, s_la, s_liO, s_ljO, s_laO, q_get, q_p1, q_p2, s_n2i, s_n2r, s_n2l, s_n2n, q_pad, q_ar, s_ob, s_obO, q_nth, s_ri, s_riO, s_rb, s_rbO, s_rzO, s_rl, s_rlO, s_rq, s_rqO, s_ry, s_ryO, s_dn, s_tl, s_tn, s_ap, s_an, s_ci, s_cr, s_ni, s_n0, s_n1, q_ags, q_cat, List.contains_nil, List.contains_cons, Nat.reduceBEq, Bool.or_false, Bool.false_or, Bool.true_or, Bool.false_eq_true, ↓reduceIte, Nat.le_refl, Nat.zero_le, true_and, and_true, Nat.reduceLeDiff, Nat.reduceAdd, Nat.add_zero, Nat.zero_add, List.length_cons, List.length_nil, List.set_cons_zero, List.set_cons_succ, Nat.reduceLT, s_fi, s_fl, s_fo, s_fa, s_f0, s_f1, s_set, s_ss, lg_cmp_ge, lg_cmp_le, lg_cmp_gt, lg_cmp_lt, lg_cmp_eq, s_brT, s_brF, s_10, w_Mo_segmentGlyph, r_Mo_segmentGlyph, l_Mo_segmentGlyph_0, l_Mo_segmentGlyph_8, l_Mo_segmentGlyph_29, l_Mo_segmentGlyph_57, l_Mo_segmentGlyph_149, l_Mo_segmentGlyph_201, l_Mo_segmentGlyph_202, l_Mo_segmentGlyph_211, l_Mo_segmentGlyph_235, l_Mo_segmentGlyph_236, ki_8_211, kc_0, ml_8_188, w_Mo_mapAt, kl_8_205, ml_8_161, w_Mo_t16, kl_8_207, kl_8_126, kc_1, kl_8_149, kl_8_209, ml_8_132, w_Mo_tableLength, ki_8_123, ml_8_175, w_Mo_glyphCount, Mh_y, Mh_1, Mh_s1, Mh_2, Mh_s2, Mh_3, Mh_s3, Mh_4, Mh_s4, Mh_5, Mh_s5, Mh_6, Mh_s6, Mh_7, Mh_s7, Mh_8, Mh_s8, Mh_9, Mh_s9, Mh_10, Mh_s10, Mh_11, Mh_s11, Mh_12, Mh_s12, Mh_13, Mh_s13, Mh_14, Mh_s14, Mh_15, Mh_s15, Mh_16, Mh_s16, Mh_17, Mh_s17, Mh_18, Mh_s18, Mh_19, Mh_s19, Mh_20, Mh_s20, Mh_21, Mh_s21, Mh_22, Mh_s22, Mh_23, Mh_s23, Mh_24, Mh_s24, Mh_p, nI_add, show nI (v + dl) - nI (v + dl) / 65536 * 65536 = nI ((v + dl) % 65536) from pk_rem (d := 65536) (by omega) (by omega) (by omega)]
  refine ⟨by decide, ?_⟩
  refine q_c0 (Nat.le_refl _) (Nat.le_refl _) ?_
  refine c_Mo_glyphCount (d := d) R ?_
  simp -implicitDefEqProofs only [s_go, s_nil, s_cons, q_ins, s_op, s_i, s_j, s_a, s_v, s_li, s_lj, s_la, s_liO, s_ljO, s_laO, q_get, q_p1, q_p2, s_n2i, s_n2r, s_n2l, s_n2n, q_pad, q_ar, s_ob, s_obO, q_nth, s_ri, s_riO, s_rb, s_rbO, s_rzO, s_rl, s_rlO, s_rq, s_rqO, s_ry, s_ryO, s_dn, s_tl, s_tn, s_ap, s_an, s_ci, s_cr, s_ni, s_n0, s_n1, q_ags, q_cat, List.contains_nil, List.contains_cons, Nat.reduceBEq, Bool.or_false, Bool.false_or, Bool.true_or, Bool.false_eq_true, ↓reduceIte, Nat.le_refl, Nat.zero_le, true_and, and_true, Nat.reduceLeDiff, Nat.reduceAdd, Nat.add_zero, Nat.zero_add, List.length_cons, List.length_nil, List.set_cons_zero, List.set_cons_succ, Nat.reduceLT, s_fi, s_fl, s_fo, s_fa, s_f0, s_f1, s_set, s_ss, lg_cmp_ge, lg_cmp_le, lg_cmp_gt, lg_cmp_lt, lg_cmp_eq, s_brT, s_brF, s_10, w_Mo_segmentGlyph, r_Mo_segmentGlyph, l_Mo_segmentGlyph_0, l_Mo_segmentGlyph_8, l_Mo_segmentGlyph_29, l_Mo_segmentGlyph_57, l_Mo_segmentGlyph_149, l_Mo_segmentGlyph_201, l_Mo_segmentGlyph_202, l_Mo_segmentGlyph_211, l_Mo_segmentGlyph_235, l_Mo_segmentGlyph_236, ki_8_211, kc_0, ml_8_188, w_Mo_mapAt, kl_8_205, ml_8_161, w_Mo_t16, kl_8_207, kl_8_126, kc_1, kl_8_149, kl_8_209, ml_8_132, w_Mo_tableLength, ki_8_123, ml_8_175, w_Mo_glyphCount, Mh_y, Mh_1, Mh_s1, Mh_2, Mh_s2, Mh_3, Mh_s3, Mh_4, Mh_s4, Mh_5, Mh_s5, Mh_6, Mh_s6, Mh_7, Mh_s7, Mh_8, Mh_s8, Mh_9, Mh_s9, Mh_10, Mh_s10, Mh_11, Mh_s11, Mh_12, Mh_s12, Mh_13, Mh_s13, Mh_14, Mh_s14, Mh_15, Mh_s15, Mh_16, Mh_s16, Mh_17, Mh_s17, Mh_18, Mh_s18, Mh_19, Mh_s19, Mh_20, Mh_s20, Mh_21, Mh_s21, Mh_22, Mh_s22, Mh_23, Mh_s23, Mh_24, Mh_s24, Mh_p]
  refine ⟨fun z => ?_, fun z => ?_⟩
  · have q := hq (b || decide ((t_mx F sz).2 < 6))
    unfold cap at q
    rw [if_neg (by have := (nI_leI (by omega) (by omega)).mp z; omega)] at q
    exact q
  · have q := hq (b || decide ((t_mx F sz).2 < 6))
    unfold cap at q
    rw [if_pos (Nat.not_le.mp (fun q => z ((nI_leI (by omega) (by omega)).mpr q)))] at q
    exact q
set_option maxRecDepth 100000 in
set_option maxHeartbeats 4000000 in
theorem z_Mo_segmentGlyph {G : q_G} {l : Launch} {d y n sz p c : Nat} {fa si fo wi of_ pr le : Int32} {F : Nat → Nat} {h : q_H} {Q : q_P} (R : MoR h y of_ F sz) (sg : SG_ok F (t_cm F sz).1 (t_cm F sz).2 p) (hc : c ≤ 65535)
    (hq : ∀ b, Q (some (.int (nI (cap (f_N F sz) (SGr F (t_cm F sz).1 (t_cm F sz).2 p (sg_D F (t_cm F sz).1 (t_cm F sz).2 p / 2) c 0 (sg_D F (t_cm F sz).1 (t_cm F sz).2 p / 2)))))) (Mh h y fa si fo wi of_ (bI b) pr le) n) :
    ∀ (r k : Nat) (b : Bool), k + r = sg_D F (t_cm F sz).1 (t_cm F sz).2 p / 2 → (∀ j, j < k → s_la' F (t_cm F sz).1 (t_cm F sz).2 p j < c) → SGr F (t_cm F sz).1 (t_cm F sz).2 p (sg_D F (t_cm F sz).1 (t_cm F sz).2 p / 2) c 0 (sg_D F (t_cm F sz).1 (t_cm F sz).2 p / 2) = SGr F (t_cm F sz).1 (t_cm F sz).2 p (sg_D F (t_cm F sz).1 (t_cm F sz).2 p / 2) c k r → q_Z G l M_Mo_segmentGlyph (d + 5) 0 0 Q 29 [some (.ref y), some (.int (nI c)), some (.long (lN p)), none, some (.int (nI (sg_D F (t_cm F sz).1 (t_cm F sz).2 p))), some (.int (nI k)), none, none, none, none, none, none, none, none] [] (Mh h y fa si fo wi of_ (bI b) pr le) n 0 0 := by
  have hb := R.2.2.2.1
  have hi : (t_cm F sz).1 + (t_cm F sz).2 ≤ sz := R.2.2.2.2 0 (by omega)
  have hs := R.2.2.1
  generalize hcs : (t_cm F sz).1 = cs at *
  generalize hcl : (t_cm F sz).2 = cl at *
  have tb : TB F sz 0 = (cs, cl) := by rw [← hcs, ← hcl]; rfl
  have hD : sg_D F cs cl p < 65536 := U16_lt hb cs cl (p + 6)
  obtain ⟨g1, g2, g3, g4, g5, g6, g7⟩ := sg
  generalize hDe : sg_D F cs cl p = D at *
  intro r
  induction r with
  | zero =>
    intro k b hk hl he
    have := hl (D / 2 - 1) (by omega)
    omega
  | succ r ih =>
    intro k b hk hl he
    have b1 : s_la' F cs cl p k < 65536 := U16_lt hb cs cl _
    have b2 : s_fi' F cs cl p (D / 2) k < 65536 := U16_lt hb cs cl _
    have b3 := U16_lt hb cs cl (p + 16 + 2 * D + 2 * k)
    have b4 : SGw F cs cl p (D / 2) k < 65536 := U16_lt hb cs cl _
    have sgr : SGr F cs cl p (D / 2) c k (r + 1) = if s_la' F cs cl p k < c then SGr F cs cl p (D / 2) c (k + 1) r else if c < s_fi' F cs cl p (D / 2) k then 0 else SG1 F cs cl p (D / 2) k c := rfl
    have D2 : 2 * (D / 2) = D := by omega
    refine q_at o_Mo_segmentGlyph [29, 211] 20 l_Mo_segmentGlyph_29 ?_
    simp -implicitDefEqProofs only [s_go, s_nil, s_cons, q_ins, s_op, s_i, s_j, s_a, s_v, s_li, s_lj, s_la, s_liO, s_ljO, s_laO, q_get, q_p1, q_p2, s_n2i, s_n2r, s_n2l, s_n2n, q_pad, q_ar, s_ob, s_obO, q_nth, s_ri, s_riO, s_rb, s_rbO, s_rzO, s_rl, s_rlO, s_rq, s_rqO, s_ry, s_ryO, s_dn, s_tl, s_tn, s_ap, s_an, s_ci, s_cr, s_ni, s_n0, s_n1, q_ags, q_cat, List.contains_nil, List.contains_cons, Nat.reduceBEq, Bool.or_false, Bool.false_or, Bool.true_or, Bool.false_eq_true, ↓reduceIte, Nat.le_refl, Nat.zero_le, true_and, and_true, Nat.reduceLeDiff, Nat.reduceAdd, Nat.add_zero, Nat.zero_add, List.length_cons, List.length_nil, List.set_cons_zero, List.set_cons_succ, Nat.reduceLT, s_fi, s_fl, s_fo, s_fa, s_f0, s_f1, s_set, s_ss, lg_cmp_ge, lg_cmp_le, lg_cmp_gt, lg_cmp_lt, lg_cmp_eq, s_brT, s_brF, s_10, w_Mo_segmentGlyph, r_Mo_segmentGlyph, l_Mo_segmentGlyph_0, l_Mo_segmentGlyph_8, l_Mo_segmentGlyph_29, l_Mo_segmentGlyph_57, l_Mo_segmentGlyph_149, l_Mo_segmentGlyph_201, l_Mo_segmentGlyph_202, l_Mo_segmentGlyph_211, l_Mo_segmentGlyph_235, l_Mo_segmentGlyph_236, ki_8_211, kc_0, ml_8_188, w_Mo_mapAt, kl_8_205, ml_8_161, w_Mo_t16, kl_8_207, kl_8_126, kc_1, kl_8_149, kl_8_209, ml_8_132, w_Mo_tableLength, ki_8_123, ml_8_175, w_Mo_glyphCount, Mh_y, Mh_1, Mh_s1, Mh_2, Mh_s2, Mh_3, Mh_s3, Mh_4, Mh_s4, Mh_5, Mh_s5, Mh_6, Mh_s6, Mh_7, Mh_s7, Mh_8, Mh_s8, Mh_9, Mh_s9, Mh_10, Mh_s10, Mh_11, Mh_s11, Mh_12, Mh_s12, Mh_13, Mh_s13, Mh_14, Mh_s14, Mh_15, Mh_s15, Mh_16, Mh_s16, Mh_17, Mh_s17, Mh_18, Mh_s18, Mh_19, Mh_s19, Mh_20, Mh_s20, Mh_21, Mh_s21, Mh_22, Mh_s22, Mh_23, Mh_s23, Mh_24, Mh_s24, Mh_p, nI_l (show k < 2 ^ 31 by omega), show lN p + 14 = lN (p + 14) from lN_add p 14, show (2 : Int64) * lN k = lN (2 * k) from lN_mul 2 k, show lN (p + 14) + lN (2 * k) = lN (p + 14 + 2 * k) from lN_add _ _]
    refine q_c0 (Nat.le_refl _) (Nat.le_refl _) ?_
    refine c_Mo_t16 (d := d + 1) (t := 0) R (by omega) (by omega) ?_
    rw [tb]
    simp -implicitDefEqProofs only [s_go, s_nil, s_cons, q_ins, s_op, s_i, s_j, s_a, s_v, s_li, s_lj, s_la, s_liO, s_ljO, s_laO, q_get, q_p1, q_p2, s_n2i, s_n2r, s_n2l, s_n2n, q_pad, q_ar, s_ob, s_obO, q_nth, s_ri, s_riO, s_rb, s_rbO, s_rzO, s_rl, s_rlO, s_rq, s_rqO, s_ry, s_ryO, s_dn, s_tl, s_tn, s_ap, s_an, s_ci, s_cr, s_ni, s_n0, s_n1, q_ags, q_cat, List.contains_nil, List.contains_cons, Nat.reduceBEq, Bool.or_false, Bool.false_or, Bool.true_or, Bool.false_eq_true, ↓reduceIte, Nat.le_refl, Nat.zero_le, true_and, and_true, Nat.reduceLeDiff, Nat.reduceAdd, Nat.add_zero, Nat.zero_add, List.length_cons, List.length_nil, List.set_cons_zero, List.set_cons_succ, Nat.reduceLT, s_fi, s_fl, s_fo, s_fa, s_f0, s_f1, s_set, s_ss, lg_cmp_ge, lg_cmp_le, lg_cmp_gt, lg_cmp_lt, lg_cmp_eq, s_brT, s_brF, s_10, w_Mo_segmentGlyph, r_Mo_segmentGlyph, l_Mo_segmentGlyph_0, l_Mo_segmentGlyph_8, l_Mo_segmentGlyph_29, l_Mo_segmentGlyph_57, l_Mo_segmentGlyph_149, l_Mo_segmentGlyph_201, l_Mo_segmentGlyph_202, l_Mo_segmentGlyph_211, l_Mo_segmentGlyph_235, l_Mo_segmentGlyph_236, ki_8_211, kc_0, ml_8_188, w_Mo_mapAt, kl_8_205, ml_8_161, w_Mo_t16, kl_8_207, kl_8_126, kc_1, kl_8_149, kl_8_209, ml_8_132, w_Mo_tableLength, ki_8_123, ml_8_175, w_Mo_glyphCount, Mh_y, Mh_1, Mh_s1, Mh_2, Mh_s2, Mh_3, Mh_s3, Mh_4, Mh_s4, Mh_5, Mh_s5, Mh_6, Mh_s6, Mh_7, Mh_s7, Mh_8, Mh_s8, Mh_9, Mh_s9, Mh_10, Mh_s10, Mh_11, Mh_s11, Mh_12, Mh_s12, Mh_13, Mh_s13, Mh_14, Mh_s14, Mh_15, Mh_s15, Mh_16, Mh_s16, Mh_17, Mh_s17, Mh_18, Mh_s18, Mh_19, Mh_s19, Mh_20, Mh_s20, Mh_21, Mh_s21, Mh_22, Mh_s22, Mh_23, Mh_s23, Mh_24, Mh_s24, Mh_p, nI_1]
    rw [show nI (U16 F cs cl (p + 14 + 2 * k)) = nI (s_la' F cs cl p k) from rfl]
    refine ⟨fun z => ?_, fun z => ?_⟩
    rotate_left
    · have z : s_la' F cs cl p k < c := Nat.not_le.mp (fun q => z ((nI_leI (by omega) (by omega)).mpr q))
      rw [sgr, if_pos z] at he
      refine ih (k + 1) _ (by omega) (fun j hj => ?_) he
      rcases Nat.lt_or_ge j k with q | q
      · exact hl j q
      · rw [show j = k by omega]; exact z
    have z : c ≤ s_la' F cs cl p k := (nI_leI (by omega) (by omega)).mp z
    rw [sgr, if_neg (by omega)] at he
    simp -implicitDefEqProofs only [s_go, s_nil, s_cons, q_ins, s_op, s_i, s_j, s_a, s_v, s_li, s_lj, s_la, s_liO, s_ljO, s_laO, q_get, q_p1, q_p2, s_n2i, s_n2r, s_n2l, s_n2n, q_pad, q_ar, s_ob, s_obO, q_nth, s_ri, s_riO, s_rb, s_rbO, s_rzO, s_rl, s_rlO, s_rq, s_rqO, s_ry, s_ryO, s_dn, s_tl, s_tn, s_ap, s_an, s_ci, s_cr, s_ni, s_n0, s_n1, q_ags, q_cat, List.contains_nil, List.contains_cons, Nat.reduceBEq, Bool.or_false, Bool.false_or, Bool.true_or, Bool.false_eq_true, ↓reduceIte, Nat.le_refl, Nat.zero_le, true_and, and_true, Nat.reduceLeDiff, Nat.reduceAdd, Nat.add_zero, Nat.zero_add, List.length_cons, List.length_nil, List.set_cons_zero, List.set_cons_succ, Nat.reduceLT, s_fi, s_fl, s_fo, s_fa, s_f0, s_f1, s_set, s_ss, lg_cmp_ge, lg_cmp_le, lg_cmp_gt, lg_cmp_lt, lg_cmp_eq, s_brT, s_brF, s_10, w_Mo_segmentGlyph, r_Mo_segmentGlyph, l_Mo_segmentGlyph_0, l_Mo_segmentGlyph_8, l_Mo_segmentGlyph_29, l_Mo_segmentGlyph_57, l_Mo_segmentGlyph_149, l_Mo_segmentGlyph_201, l_Mo_segmentGlyph_202, l_Mo_segmentGlyph_211, l_Mo_segmentGlyph_235, l_Mo_segmentGlyph_236, ki_8_211, kc_0, ml_8_188, w_Mo_mapAt, kl_8_205, ml_8_161, w_Mo_t16, kl_8_207, kl_8_126, kc_1, kl_8_149, kl_8_209, ml_8_132, w_Mo_tableLength, ki_8_123, ml_8_175, w_Mo_glyphCount, Mh_y, Mh_1, Mh_s1, Mh_2, Mh_s2, Mh_3, Mh_s3, Mh_4, Mh_s4, Mh_5, Mh_s5, Mh_6, Mh_s6, Mh_7, Mh_s7, Mh_8, Mh_s8, Mh_9, Mh_s9, Mh_10, Mh_s10, Mh_11, Mh_s11, Mh_12, Mh_s12, Mh_13, Mh_s13, Mh_14, Mh_s14, Mh_15, Mh_s15, Mh_16, Mh_s16, Mh_17, Mh_s17, Mh_18, Mh_s18, Mh_19, Mh_s19, Mh_20, Mh_s20, Mh_21, Mh_s21, Mh_22, Mh_s22, Mh_23, Mh_s23, Mh_24, Mh_s24, Mh_p, nI_l (show k < 2 ^ 31 by omega), nI_l (show D < 2 ^ 31 by omega), show lN p + 16 = lN (p + 16) from lN_add p 16, show (2 : Int64) * lN k = lN (2 * k) from lN_mul 2 k, show lN (p + 16) + lN D = lN (p + 16 + D) from lN_add _ _, show lN (p + 16 + D) + lN (2 * k) = lN (p + 16 + D + 2 * k) from lN_add _ _]
    refine q_c0 (Nat.le_refl _) (Nat.le_refl _) ?_
    refine c_Mo_t16 (d := d + 1) (t := 0) R (by omega) (by omega) ?_
    rw [tb]
    simp -implicitDefEqProofs only [s_go, s_nil, s_cons, q_ins, s_op, s_i, s_j, s_a, s_v, s_li, s_lj, s_la, s_liO, s_ljO, s_laO, q_get, q_p1, q_p2, s_n2i, s_n2r, s_n2l, s_n2n, q_pad, q_ar, s_ob, s_obO, q_nth, s_ri, s_riO, s_rb, s_rbO, s_rzO, s_rl, s_rlO, s_rq, s_rqO, s_ry, s_ryO, s_dn, s_tl, s_tn, s_ap, s_an, s_ci, s_cr, s_ni, s_n0, s_n1, q_ags, q_cat, List.contains_nil, List.contains_cons, Nat.reduceBEq, Bool.or_false, Bool.false_or, Bool.true_or, Bool.false_eq_true, ↓reduceIte, Nat.le_refl, Nat.zero_le, true_and, and_true, Nat.reduceLeDiff, Nat.reduceAdd, Nat.add_zero, Nat.zero_add, List.length_cons, List.length_nil, List.set_cons_zero, List.set_cons_succ, Nat.reduceLT, s_fi, s_fl, s_fo, s_fa, s_f0, s_f1, s_set, s_ss, lg_cmp_ge, lg_cmp_le, lg_cmp_gt, lg_cmp_lt, lg_cmp_eq, s_brT, s_brF, s_10, w_Mo_segmentGlyph, r_Mo_segmentGlyph, l_Mo_segmentGlyph_0, l_Mo_segmentGlyph_8, l_Mo_segmentGlyph_29, l_Mo_segmentGlyph_57, l_Mo_segmentGlyph_149, l_Mo_segmentGlyph_201, l_Mo_segmentGlyph_202, l_Mo_segmentGlyph_211, l_Mo_segmentGlyph_235, l_Mo_segmentGlyph_236, ki_8_211, kc_0, ml_8_188, w_Mo_mapAt, kl_8_205, ml_8_161, w_Mo_t16, kl_8_207, kl_8_126, kc_1, kl_8_149, kl_8_209, ml_8_132, w_Mo_tableLength, ki_8_123, ml_8_175, w_Mo_glyphCount, Mh_y, Mh_1, Mh_s1, Mh_2, Mh_s2, Mh_3, Mh_s3, Mh_4, Mh_s4, Mh_5, Mh_s5, Mh_6, Mh_s6, Mh_7, Mh_s7, Mh_8, Mh_s8, Mh_9, Mh_s9, Mh_10, Mh_s10, Mh_11, Mh_s11, Mh_12, Mh_s12, Mh_13, Mh_s13, Mh_14, Mh_s14, Mh_15, Mh_s15, Mh_16, Mh_s16, Mh_17, Mh_s17, Mh_18, Mh_s18, Mh_19, Mh_s19, Mh_20, Mh_s20, Mh_21, Mh_s21, Mh_22, Mh_s22, Mh_23, Mh_s23, Mh_24, Mh_s24, Mh_p, nI_l (show k < 2 ^ 31 by omega), nI_l (show D < 2 ^ 31 by omega), show lN p + 16 = lN (p + 16) from lN_add p 16, show (2 : Int64) * lN k = lN (2 * k) from lN_mul 2 k, show (2 : Int64) * lN D = lN (2 * D) from lN_mul 2 D, show lN (p + 16) + lN (2 * D) = lN (p + 16 + 2 * D) from lN_add _ _, show lN (p + 16 + 2 * D) + lN (2 * k) = lN (p + 16 + 2 * D + 2 * k) from lN_add _ _]
    refine q_c0 (Nat.le_refl _) (Nat.le_refl _) ?_
    refine c_Mo_t16 (d := d + 1) (t := 0) R (by omega) (by omega) ?_
    rw [tb]
    simp -implicitDefEqProofs only [s_go, s_nil, s_cons, q_ins, s_op, s_i, s_j, s_a, s_v, s_li, s_lj, s_la, s_liO, s_ljO, s_laO, q_get, q_p1, q_p2, s_n2i, s_n2r, s_n2l, s_n2n, q_pad, q_ar, s_ob, s_obO, q_nth, s_ri, s_riO, s_rb, s_rbO, s_rzO, s_rl, s_rlO, s_rq, s_rqO, s_ry, s_ryO, s_dn, s_tl, s_tn, s_ap, s_an, s_ci, s_cr, s_ni, s_n0, s_n1, q_ags, q_cat, List.contains_nil, List.contains_cons, Nat.reduceBEq, Bool.or_false, Bool.false_or, Bool.true_or, Bool.false_eq_true, ↓reduceIte, Nat.le_refl, Nat.zero_le, true_and, and_true, Nat.reduceLeDiff, Nat.reduceAdd, Nat.add_zero, Nat.zero_add, List.length_cons, List.length_nil, List.set_cons_zero, List.set_cons_succ, Nat.reduceLT, s_fi, s_fl, s_fo, s_fa, s_f0, s_f1, s_set, s_ss, lg_cmp_ge, lg_cmp_le, lg_cmp_gt, lg_cmp_lt, lg_cmp_eq, s_brT, s_brF, s_10, w_Mo_segmentGlyph, r_Mo_segmentGlyph, l_Mo_segmentGlyph_0, l_Mo_segmentGlyph_8, l_Mo_segmentGlyph_29, l_Mo_segmentGlyph_57, l_Mo_segmentGlyph_149, l_Mo_segmentGlyph_201, l_Mo_segmentGlyph_202, l_Mo_segmentGlyph_211, l_Mo_segmentGlyph_235, l_Mo_segmentGlyph_236, ki_8_211, kc_0, ml_8_188, w_Mo_mapAt, kl_8_205, ml_8_161, w_Mo_t16, kl_8_207, kl_8_126, kc_1, kl_8_149, kl_8_209, ml_8_132, w_Mo_tableLength, ki_8_123, ml_8_175, w_Mo_glyphCount, Mh_y, Mh_1, Mh_s1, Mh_2, Mh_s2, Mh_3, Mh_s3, Mh_4, Mh_s4, Mh_5, Mh_s5, Mh_6, Mh_s6, Mh_7, Mh_s7, Mh_8, Mh_s8, Mh_9, Mh_s9, Mh_10, Mh_s10, Mh_11, Mh_s11, Mh_12, Mh_s12, Mh_13, Mh_s13, Mh_14, Mh_s14, Mh_15, Mh_s15, Mh_16, Mh_s16, Mh_17, Mh_s17, Mh_18, Mh_s18, Mh_19, Mh_s19, Mh_20, Mh_s20, Mh_21, Mh_s21, Mh_22, Mh_s22, Mh_23, Mh_s23, Mh_24, Mh_s24, Mh_p, nI_l (show k < 2 ^ 31 by omega), nI_l (show D < 2 ^ 31 by omega), show lN p + 16 = lN (p + 16) from lN_add p 16, show (2 : Int64) * lN k = lN (2 * k) from lN_mul 2 k, show (3 : Int64) * lN D = lN (3 * D) from lN_mul 3 D, show lN (p + 16) + lN (3 * D) = lN (p + 16 + 3 * D) from lN_add _ _, show lN (p + 16 + 3 * D) + lN (2 * k) = lN (p + 16 + 3 * D + 2 * k) from lN_add _ _]
    refine q_c0 (Nat.le_refl _) (Nat.le_refl _) ?_
    refine c_Mo_t16 (d := d + 1) (t := 0) R (by omega) (by omega) ?_
    rw [tb]
    dsimp only
    rw [show U16 F cs cl (p + 16 + D + 2 * k) = s_fi' F cs cl p (D / 2) k by unfold s_fi'; rw [D2], show U16 F cs cl (p + 16 + 3 * D + 2 * k) = SGw F cs cl p (D / 2) k by unfold SGw; rw [show 6 * (D / 2) = 3 * D by omega]]
    simp -implicitDefEqProofs only [s_go, s_nil, s_cons, q_ins, s_op, s_i, s_j, s_a, s_v, s_li, s_lj, s_la, s_liO, s_ljO, s_laO, q_get, q_p1, q_p2, s_n2i, s_n2r, s_n2l, s_n2n, q_pad, q_ar, s_ob, s_obO, q_nth, s_ri, s_riO, s_rb, s_rbO, s_rzO, s_rl, s_rlO, s_rq, s_rqO, s_ry, s_ryO, s_dn, s_tl, s_tn, s_ap, s_an, s_ci, s_cr, s_ni, s_n0, s_n1, q_ags, q_cat, List.contains_nil, List.contains_cons, Nat.reduceBEq, Bool.or_false, Bool.false_or, Bool.true_or, Bool.false_eq_true, ↓reduceIte, Nat.le_refl, Nat.zero_le, true_and, and_true, Nat.reduceLeDiff, Nat.reduceAdd, Nat.add_zero, Nat.zero_add, List.length_cons, List.length_nil, List.set_cons_zero, List.set_cons_succ, Nat.reduceLT, s_fi, s_fl, s_fo, s_fa, s_f0, s_f1, s_set, s_ss, lg_cmp_ge, lg_cmp_le, lg_cmp_gt, lg_cmp_lt, lg_cmp_eq, s_brT, s_brF, s_10, w_Mo_segmentGlyph, r_Mo_segmentGlyph, l_Mo_segmentGlyph_0, l_Mo_segmentGlyph_8, l_Mo_segmentGlyph_29, l_Mo_segmentGlyph_57, l_Mo_segmentGlyph_149, l_Mo_segmentGlyph_201, l_Mo_segmentGlyph_202, l_Mo_segmentGlyph_211, l_Mo_segmentGlyph_235, l_Mo_segmentGlyph_236, ki_8_211, kc_0, ml_8_188, w_Mo_mapAt, kl_8_205, ml_8_161, w_Mo_t16, kl_8_207, kl_8_126, kc_1, kl_8_149, kl_8_209, ml_8_132, w_Mo_tableLength, ki_8_123, ml_8_175, w_Mo_glyphCount, Mh_y, Mh_1, Mh_s1, Mh_2, Mh_s2, Mh_3, Mh_s3, Mh_4, Mh_s4, Mh_5, Mh_s5, Mh_6, Mh_s6, Mh_7, Mh_s7, Mh_8, Mh_s8, Mh_9, Mh_s9, Mh_10, Mh_s10, Mh_11, Mh_s11, Mh_12, Mh_s12, Mh_13, Mh_s13, Mh_14, Mh_s14, Mh_15, Mh_s15, Mh_16, Mh_s16, Mh_17, Mh_s17, Mh_18, Mh_s18, Mh_19, Mh_s19, Mh_20, Mh_s20, Mh_21, Mh_s21, Mh_22, Mh_s22, Mh_23, Mh_s23, Mh_24, Mh_s24, Mh_p]
    refine ⟨fun z2 => ?_, fun z2 => ?_⟩
    rotate_left
    · have z2 : c < s_fi' F cs cl p (D / 2) k := Nat.not_le.mp (fun q => z2 ((nI_leI (by omega) (by omega)).mpr q))
      rw [if_pos z2] at he
      rw [he, cap_0] at hq
      exact hq _
    have z2 : s_fi' F cs cl p (D / 2) k ≤ c := (nI_leI (by omega) (by omega)).mp z2
    rw [if_neg (by omega)] at he
    have sg1 : SG1 F cs cl p (D / 2) k c = if SGw F cs cl p (D / 2) k = 0 then (c + U16 F cs cl (p + 16 + 2 * D + 2 * k)) % 65536 else if p + 16 + 3 * D + 2 * k + SGw F cs cl p (D / 2) k + 2 * (c - s_fi' F cs cl p (D / 2) k) + 2 ≤ cl ∧ U16 F cs cl (p + 16 + 3 * D + 2 * k + SGw F cs cl p (D / 2) k + 2 * (c - s_fi' F cs cl p (D / 2) k)) ≠ 0 then (U16 F cs cl (p + 16 + 3 * D + 2 * k + SGw F cs cl p (D / 2) k + 2 * (c - s_fi' F cs cl p (D / 2) k)) + U16 F cs cl (p + 16 + 2 * D + 2 * k)) % 65536 else 0 := by
      unfold SG1
      rw [show 4 * (D / 2) = 2 * D by omega, show 6 * (D / 2) = 3 * D by omega]
    rw [he, sg1] at hq
    refine ⟨fun z3 => ?_, fun z3 => ?_⟩
    · have z3 : SGw F cs cl p (D / 2) k = 0 := by
        have := (nI_leI (b := 0) (by omega) (by omega)).mp z3
        omega
      rw [if_pos z3] at hq
      exact y_Mo_segmentGlyph R (by omega) b3 hq
    have z3 : SGw F cs cl p (D / 2) k ≠ 0 := fun q => z3 (by rw [q]; decide)
    rw [if_neg z3] at hq
    generalize hpl : p + 16 + 3 * D + 2 * k + SGw F cs cl p (D / 2) k + 2 * (c - s_fi' F cs cl p (D / 2) k) = pl at hq
    have b5 := U16_lt hb cs cl pl
    have eP : lN (p + 16 + 3 * D + 2 * k) + (nI (SGw F cs cl p (D / 2) k)).toInt64 + 2 * (nI c - nI (s_fi' F cs cl p (D / 2) k)).toInt64 = lN pl := by
      rw [pk_sub z2, nI_l (by omega), nI_l (by omega), show (2 : Int64) * lN (c - s_fi' F cs cl p (D / 2) k) = lN (2 * (c - s_fi' F cs cl p (D / 2) k)) from lN_mul 2 _, lN_add, lN_add, hpl]
    rw [eP, show lN pl + 2 = lN (pl + 2) from lN_add pl 2]
    refine q_c0 (Nat.le_refl _) (Nat.le_refl _) ?_
    refine c_Mo_tableLength (t := 0) R.2.1 (by omega) ?_
    rw [tb]
    simp -implicitDefEqProofs only [s_go, s_nil, s_cons, q_ins, s_op, s_i, s_j, s_a, s_v, s_li, s_lj, s_la, s_liO, s_ljO, s_laO, q_get, q_p1, q_p2, s_n2i, s_n2r, s_n2l, s_n2n, q_pad, q_ar, s_ob, s_obO, q_nth, s_ri, s_riO, s_rb, s_rbO, s_rzO, s_rl, s_rlO, s_rq, s_rqO, s_ry, s_ryO, s_dn, s_tl, s_tn, s_ap, s_an, s_ci, s_cr, s_ni, s_n0, s_n1, q_ags, q_cat, List.contains_nil, List.contains_cons, Nat.reduceBEq, Bool.or_false, Bool.false_or, Bool.true_or, Bool.false_eq_true, ↓reduceIte, Nat.le_refl, Nat.zero_le, true_and, and_true, Nat.reduceLeDiff, Nat.reduceAdd, Nat.add_zero, Nat.zero_add, List.length_cons, List.length_nil, List.set_cons_zero, List.set_cons_succ, Nat.reduceLT, s_fi, s_fl, s_fo, s_fa, s_f0, s_f1, s_set, s_ss, lg_cmp_ge, lg_cmp_le, lg_cmp_gt, lg_cmp_lt, lg_cmp_eq, s_brT, s_brF, s_10, w_Mo_segmentGlyph, r_Mo_segmentGlyph, l_Mo_segmentGlyph_0, l_Mo_segmentGlyph_8, l_Mo_segmentGlyph_29, l_Mo_segmentGlyph_57, l_Mo_segmentGlyph_149, l_Mo_segmentGlyph_201, l_Mo_segmentGlyph_202, l_Mo_segmentGlyph_211, l_Mo_segmentGlyph_235, l_Mo_segmentGlyph_236, ki_8_211, kc_0, ml_8_188, w_Mo_mapAt, kl_8_205, ml_8_161, w_Mo_t16, kl_8_207, kl_8_126, kc_1, kl_8_149, kl_8_209, ml_8_132, w_Mo_tableLength, ki_8_123, ml_8_175, w_Mo_glyphCount, Mh_y, Mh_1, Mh_s1, Mh_2, Mh_s2, Mh_3, Mh_s3, Mh_4, Mh_s4, Mh_5, Mh_s5, Mh_6, Mh_s6, Mh_7, Mh_s7, Mh_8, Mh_s8, Mh_9, Mh_s9, Mh_10, Mh_s10, Mh_11, Mh_s11, Mh_12, Mh_s12, Mh_13, Mh_s13, Mh_14, Mh_s14, Mh_15, Mh_s15, Mh_16, Mh_s16, Mh_17, Mh_s17, Mh_18, Mh_s18, Mh_19, Mh_s19, Mh_20, Mh_s20, Mh_21, Mh_s21, Mh_22, Mh_s22, Mh_23, Mh_s23, Mh_24, Mh_s24, Mh_p, nI_l (show cl < 2 ^ 31 by omega), eq_self]
    refine ⟨fun z4 => ?_, fun z4 => ?_⟩
    · have z4 := (pk_lLT (by omega) (by omega)).mp z4
      rw [if_neg (fun q => absurd q.1 (by omega)), cap_0] at hq
      exact hq _
    have z4 : pl + 2 ≤ cl := Nat.not_lt.mp (fun q => z4 ((pk_lLT (by omega) (by omega)).mpr q))
    refine q_c0 (Nat.le_refl _) (Nat.le_refl _) ?_
    refine c_Mo_t16 (d := d + 1) (t := 0) R (by omega) (by omega) ?_
    rw [tb]
    simp -implicitDefEqProofs only [s_go, s_nil, s_cons, q_ins, s_op, s_i, s_j, s_a, s_v, s_li, s_lj, s_la, s_liO, s_ljO, s_laO, q_get, q_p1, q_p2, s_n2i, s_n2r, s_n2l, s_n2n, q_pad, q_ar, s_ob, s_obO, q_nth, s_ri, s_riO, s_rb, s_rbO, s_rzO, s_rl, s_rlO, s_rq, s_rqO, s_ry, s_ryO, s_dn, s_tl, s_tn, s_ap, s_an, s_ci, s_cr, s_ni, s_n0, s_n1, q_ags, q_cat, List.contains_nil, List.contains_cons, Nat.reduceBEq, Bool.or_false, Bool.false_or, Bool.true_or, Bool.false_eq_true, ↓reduceIte, Nat.le_refl, Nat.zero_le, true_and, and_true, Nat.reduceLeDiff, Nat.reduceAdd, Nat.add_zero, Nat.zero_add, List.length_cons, List.length_nil, List.set_cons_zero, List.set_cons_succ, Nat.reduceLT, s_fi, s_fl, s_fo, s_fa, s_f0, s_f1, s_set, s_ss, lg_cmp_ge, lg_cmp_le, lg_cmp_gt, lg_cmp_lt, lg_cmp_eq, s_brT, s_brF, s_10, w_Mo_segmentGlyph, r_Mo_segmentGlyph, l_Mo_segmentGlyph_0, l_Mo_segmentGlyph_8, l_Mo_segmentGlyph_29, l_Mo_segmentGlyph_57, l_Mo_segmentGlyph_149, l_Mo_segmentGlyph_201, l_Mo_segmentGlyph_202, l_Mo_segmentGlyph_211, l_Mo_segmentGlyph_235, l_Mo_segmentGlyph_236, ki_8_211, kc_0, ml_8_188, w_Mo_mapAt, kl_8_205, ml_8_161, w_Mo_t16, kl_8_207, kl_8_126, kc_1, kl_8_149, kl_8_209, ml_8_132, w_Mo_tableLength, ki_8_123, ml_8_175, w_Mo_glyphCount, Mh_y, Mh_1, Mh_s1, Mh_2, Mh_s2, Mh_3, Mh_s3, Mh_4, Mh_s4, Mh_5, Mh_s5, Mh_6, Mh_s6, Mh_7, Mh_s7, Mh_8, Mh_s8, Mh_9, Mh_s9, Mh_10, Mh_s10, Mh_11, Mh_s11, Mh_12, Mh_s12, Mh_13, Mh_s13, Mh_14, Mh_s14, Mh_15, Mh_s15, Mh_16, Mh_s16, Mh_17, Mh_s17, Mh_18, Mh_s18, Mh_19, Mh_s19, Mh_20, Mh_s20, Mh_21, Mh_s21, Mh_22, Mh_s22, Mh_23, Mh_s23, Mh_24, Mh_s24, Mh_p]
    refine ⟨fun z5 => ?_, fun z5 => ?_⟩
    · have z5 : U16 F cs cl pl = 0 := (nI_inj (b := 0) (by omega) (by omega)).mp z5
      rw [if_neg (fun q => q.2 z5), cap_0] at hq
      exact hq _
    · have z5 : U16 F cs cl pl ≠ 0 := fun q => z5 (by rw [q]; rfl)
      rw [if_pos ⟨z4, z5⟩] at hq
      exact y_Mo_segmentGlyph R b5 b3 hq
