/-! the reference: begin -/
def KB (h h' : q_H) (y d : Nat) : Prop := (∀ b, (b < y + 6 ∨ y + 24 < b) → h' b = h b) ∧ (∀ k, 6 ≤ k → k ≤ 9 → ∀ j, j < 512 * d → ar h' (y + k) j = ar h (y + k) j) ∧ ∀ k, 11 ≤ k → k ≤ 24 → ∀ j, j ≠ d → ar h' (y + k) j = ar h (y + k) j
theorem KB.tr {h h' h2 : q_H} {y d : Nat} (a : KB h h' y d) (b : KB h' h2 y d) : KB h h2 y d := ⟨fun c hc => (b.1 c hc).trans (a.1 c hc), fun k h1 h2 j hj => (b.2.1 k h1 h2 j hj).trans (a.2.1 k h1 h2 j hj), fun k h1 h2 j hj => (b.2.2 k h1 h2 j hj).trans (a.2.2 k h1 h2 j hj)⟩
theorem KB.up {h : q_H} {y d a : Nat} {x : Int32} (ha : 11 ≤ a) (ha2 : a ≤ 24) : KB h (wr h (y + a) d x) y d := by
  refine ⟨fun b hb => wr_o (by omega), fun k h1 h2 j hj => wr_an (Or.inl (by omega)), fun k h1 h2 j hj => wr_an (Or.inr hj)⟩
theorem KS.kb {h h' : q_H} {y d : Nat} (k : KS h h' y d) : KB h h' y d := by
  refine ⟨fun b hb => k.1 b (by omega), k.2.1, fun a h1 h2 j hj => ?_⟩
  by_cases c : a ≤ 12
  · exact k.2.2 a h1 c j hj
  · exact ar_h (k.1 _ (by omega))
theorem MoR.kb {h h' : q_H} {y d : Nat} {of_ : Int32} {F : Nat → Nat} {sz : Nat} (R : MoR h y of_ F sz) (K : KB h h' y d) : MoR h' y of_ F sz := by
  obtain ⟨hF, ⟨gp, gl, h4, h5, hg⟩, r⟩ := R
  refine ⟨?_, ⟨gp, gl, (K.1 (y + 4) (by omega)).trans h4, (K.1 (y + 5) (by omega)).trans h5, hg⟩, r⟩
  rcases hF with ⟨o, g, e1, e2⟩ | ⟨o, g, e1, e2⟩
  · exact Or.inl ⟨o, g, (K.1 (y + 1) (by omega)).trans e1, e2⟩
  · exact Or.inr ⟨o, g, (K.1 (y + 2) (by omega)).trans e1, e2⟩
/-- what a font's numbers give the reads -/
theorem FO_ga {F : Nat → Nat} {sz g : Nat} (hf : FORM_ok F sz) (hg : g < f_N F sz) : g_a F sz g ≤ g_a F sz (g + 1) ∧ g_a F sz (g + 1) ≤ (t_gl F sz).2 := ⟨hf.2.1.2.1 g hg, PL_le hf.2.1 (f_N F sz - (g + 1)) (g + 1) (by omega)⟩
theorem q_k4 {w : Nat} (h : w < 65536) : iI (S16 w) < -1 ↔ 32767 < w ∧ w ≠ 65535 := by
  rw [show (-1 : Int32) = iI (-1) from rfl, iI_lt (by unfold S16; split <;> omega) (by omega)]
  unfold S16
  split <;> omega
set_option maxRecDepth 100000 in
set_option maxHeartbeats 4000000 in
theorem c_Mo_begin {G : q_G} {l : Launch} {dd y n d g sz : Nat} {fa si fo wi of_ pr le : Int32} {F : Nat → Nat} {h : q_H} {Q : q_P} (hd : d ≤ 5) (hf : FORM_ok F sz) (hg : g < f_N F sz) (R : MoR h y of_ F sz) (E : MoE h y)
    (q1 : g_a F sz g = g_a F sz (g + 1) → ∀ h', MoE h' y → KB h h' y d → PTS h' y d [] 0 → ar h' (y + 17) d = 0 → Q none (Mh h' y fa si fo wi of_ (bI false) pr le) n)
    (q2 : g_a F sz g ≠ g_a F sz (g + 1) → w2 F (G_a F sz g) ≤ 32 → SIM_ok F (G_a F sz (g + 1)) (G_a F sz g + 10) 0 (w2 F (G_a F sz g)) → ∀ h', MoE h' y → KB h h' y d → PTS h' y d (SIMP F (G_a F sz (g + 1)) (G_a F sz g + 10) (w2 F (G_a F sz g))) (w2 F (G_a F sz g)) → ar h' (y + 17) d = 0 → Q none (Mh h' y fa si fo wi of_ (bI false) pr le) n)
    (q3 : g_a F sz g ≠ g_a F sz (g + 1) → w2 F (G_a F sz g) = 65535 → ∀ h', MoE h' y → KB h h' y d → PTS h' y d [] 0 → ar h' (y + 17) d = 1 → ar h' (y + 13) d = 0 → ar h' (y + 14) d = 10 → ar h' (y + 15) d = nI (G_a F sz g) → ar h' (y + 16) d = nI (g_a F sz (g + 1) - g_a F sz g) → Q none (Mh h' y fa si fo wi of_ (bI false) pr le) n)
    (q0 : g_a F sz g ≠ g_a F sz (g + 1) → (G_a F sz (g + 1) < G_a F sz g + 10 ∨ (w2 F (G_a F sz g) ≠ 65535 ∧ ¬ (w2 F (G_a F sz g) ≤ 32 ∧ SIM_ok F (G_a F sz (g + 1)) (G_a F sz g + 10) 0 (w2 F (G_a F sz g))))) → ∀ h', MoE h' y → KB h h' y d → Q none (Mh h' y fa si fo wi of_ (bI true) pr le) n) : q_Call G l M_Mo_begin (dd + 6) 0 0 [.ref y, .int (nI g), .int (nI d)] (Mh h y fa si fo wi of_ (bI false) pr le) n Q := by
  have hb := R.2.2.2.1
  have hs := R.2.2.1
  have gi : (t_gl F sz).1 + (t_gl F sz).2 ≤ sz := R.2.2.2.2 1 (by omega)
  have hN : f_N F sz ≤ 256 := hf.1.2.2.2.2.2.1
  obtain ⟨ga1, ga2⟩ := FO_ga hf hg
  obtain ⟨g11, e11⟩ := E 11 (by omega) (by omega)
  obtain ⟨g12, e12⟩ := E 12 (by omega) (by omega)
  obtain ⟨g17, e17⟩ := E 17 (by omega) (by omega)
  obtain ⟨g13, e13⟩ := E 13 (by omega) (by omega)
  have e11 : h (y + 11) = some (.inl (0, 6, .inl g11)) := e11
  have e12 : wr h (y + 11) d 0 (y + 12) = some (.inl (0, 6, .inl g12)) := (wr_o (by omega)).trans e12
  have e17 : wr (wr h (y + 11) d 0) (y + 12) d 0 (y + 17) = some (.inl (3, 6, .inl g17)) := (wr_o (by omega)).trans ((wr_o (by omega)).trans e17)
  have e13 : wr (wr (wr h (y + 11) d 0) (y + 12) d 0) (y + 17) d 0 (y + 13) = some (.inl (0, 6, .inl g13)) := (wr_o (by omega)).trans ((wr_o (by omega)).trans ((wr_o (by omega)).trans e13))
  refine q_in u_Mo_begin (by rw [L_Mo_begin]; exact Nat.le_of_ble_eq_true rfl) ?_
  rw [L_Mo_begin]
  refine q_at o_Mo_begin [93] 20 l_Mo_begin_0 ?_
  simp -implicitDefEqProofs only [s_go, s_nil, s_cons, q_ins, s_op, s_i, s_j, s_a, s_v, s_li, s_lj, s_la, s_liO, s_ljO, s_laO, q_get, q_p1, q_p2, s_n2i, s_n2r, s_n2l, s_n2n, q_pad, q_ar, s_ob, s_obO, q_nth, s_ri, s_riO, s_rb, s_rbO, s_rzO, s_rl, s_rlO, s_rq, s_rqO, s_ry, s_ryO, s_dn, s_tl, s_tn, s_ap, s_an, s_ci, s_cr, s_ni, s_n0, s_n1, q_ags, q_cat, List.contains_nil, List.contains_cons, Nat.reduceBEq, Bool.or_false, Bool.false_or, Bool.true_or, Bool.false_eq_true, ↓reduceIte, Nat.le_refl, Nat.zero_le, true_and, and_true, Nat.reduceLeDiff, Nat.reduceAdd, Nat.add_zero, Nat.zero_add, List.length_cons, List.length_nil, List.set_cons_zero, List.set_cons_succ, Nat.reduceLT, s_fi, s_fl, s_fo, s_fa, s_f0, s_f1, s_set, s_ss, lg_cmp_ge, lg_cmp_le, lg_cmp_gt, lg_cmp_lt, lg_cmp_eq, s_brT, s_brF, s_10, w_Mo_begin, r_Mo_begin, l_Mo_begin_0, l_Mo_begin_52, l_Mo_begin_92, l_Mo_begin_93, l_Mo_begin_104, l_Mo_begin_139, l_Mo_begin_154, f_8_41, kc_0, f_8_44, f_8_59, f_8_47, ml_8_181, w_Mo_dataAt, kc_1, ml_8_128, w_Mo_tableAt, kj_0, ml_8_263, w_Mo_s16, kc_m1, kb_32, ml_8_109, w_Mo_need, f_8_105, f_8_56, f_8_53, ml_8_266, w_Mo_readSimple, f_8_50, kb_10, Mh_y, Mh_1, Mh_s1, Mh_2, Mh_s2, Mh_3, Mh_s3, Mh_4, Mh_s4, Mh_5, Mh_s5, Mh_6, Mh_s6, Mh_7, Mh_s7, Mh_8, Mh_s8, Mh_9, Mh_s9, Mh_10, Mh_s10, Mh_11, Mh_s11, Mh_12, Mh_s12, Mh_13, Mh_s13, Mh_14, Mh_s14, Mh_15, Mh_s15, Mh_16, Mh_s16, Mh_17, Mh_s17, Mh_18, Mh_s18, Mh_19, Mh_s19, Mh_20, Mh_s20, Mh_21, Mh_s21, Mh_22, Mh_s22, Mh_23, Mh_s23, Mh_24, Mh_s24, Mh_p, e11, wr_of e11, e12, wr_of e12, e17, wr_of e17, e13, wr_of e13, nI_clamp (show d < 2 ^ 31 by omega), show vp_nar (q_kind 3) 0 = 0 from rfl]
  refine ⟨vp_in_nI (by omega) (by omega), vp_in_nI (by omega) (by omega), vp_in_nI (by omega) (by omega), vp_in_nI (by omega) (by omega), ?_⟩
  have E4 : MoE (wr (wr (wr (wr h (y + 11) d 0) (y + 12) d 0) (y + 17) d 0) (y + 13) d 0) y := E.up.up.up.up
  have K4 : KB h (wr (wr (wr (wr h (y + 11) d 0) (y + 12) d 0) (y + 17) d 0) (y + 13) d 0) y d := (((KB.up (by omega) (by omega)).tr (KB.up (by omega) (by omega))).tr (KB.up (by omega) (by omega))).tr (KB.up (by omega) (by omega))
  have p11 : ar (wr (wr (wr (wr h (y + 11) d 0) (y + 12) d 0) (y + 17) d 0) (y + 13) d 0) (y + 11) d = 0 := (wr_an (Or.inl (by omega))).trans ((wr_an (Or.inl (by omega))).trans ((wr_an (Or.inl (by omega))).trans (E.w (by omega) (by omega))))
  have p12 : ar (wr (wr (wr (wr h (y + 11) d 0) (y + 12) d 0) (y + 17) d 0) (y + 13) d 0) (y + 12) d = 0 := (wr_an (Or.inl (by omega))).trans ((wr_an (Or.inl (by omega))).trans (E.up.w (by omega) (by omega)))
  have p17 : ar (wr (wr (wr (wr h (y + 11) d 0) (y + 12) d 0) (y + 17) d 0) (y + 13) d 0) (y + 17) d = 0 := (wr_an (Or.inl (by omega))).trans (E.up.up.w (by omega) (by omega))
  have p13 : ar (wr (wr (wr (wr h (y + 11) d 0) (y + 12) d 0) (y + 17) d 0) (y + 13) d 0) (y + 13) d = 0 := E.up.up.up.w (by omega) (by omega)
  generalize wr (wr (wr (wr h (y + 11) d 0) (y + 12) d 0) (y + 17) d 0) (y + 13) d 0 = h4 at E4 K4 p11 p12 p17 p13 ⊢
  have R4 := R.kb K4
  have pl := fun k hk => PL_fj hf.2.1 (g := k) hk
  refine q_c0 (Nat.le_refl _) (Nat.le_refl _) ?_
  refine c_Mo_dataAt (d := dd) R4 hf.1.2.2.2.1 hf.1.1.1 (by omega) ?_
  rw [b_df _ (Nat.not_lt.mpr (pl g (by omega)).1)]
  simp -implicitDefEqProofs only [s_go, s_nil, s_cons, q_ins, s_op, s_i, s_j, s_a, s_v, s_li, s_lj, s_la, s_liO, s_ljO, s_laO, q_get, q_p1, q_p2, s_n2i, s_n2r, s_n2l, s_n2n, q_pad, q_ar, s_ob, s_obO, q_nth, s_ri, s_riO, s_rb, s_rbO, s_rzO, s_rl, s_rlO, s_rq, s_rqO, s_ry, s_ryO, s_dn, s_tl, s_tn, s_ap, s_an, s_ci, s_cr, s_ni, s_n0, s_n1, q_ags, q_cat, List.contains_nil, List.contains_cons, Nat.reduceBEq, Bool.or_false, Bool.false_or, Bool.true_or, Bool.false_eq_true, ↓reduceIte, Nat.le_refl, Nat.zero_le, true_and, and_true, Nat.reduceLeDiff, Nat.reduceAdd, Nat.add_zero, Nat.zero_add, List.length_cons, List.length_nil, List.set_cons_zero, List.set_cons_succ, Nat.reduceLT, s_fi, s_fl, s_fo, s_fa, s_f0, s_f1, s_set, s_ss, lg_cmp_ge, lg_cmp_le, lg_cmp_gt, lg_cmp_lt, lg_cmp_eq, s_brT, s_brF, s_10, w_Mo_begin, r_Mo_begin, l_Mo_begin_0, l_Mo_begin_52, l_Mo_begin_92, l_Mo_begin_93, l_Mo_begin_104, l_Mo_begin_139, l_Mo_begin_154, f_8_41, kc_0, f_8_44, f_8_59, f_8_47, ml_8_181, w_Mo_dataAt, kc_1, ml_8_128, w_Mo_tableAt, kj_0, ml_8_263, w_Mo_s16, kc_m1, kb_32, ml_8_109, w_Mo_need, f_8_105, f_8_56, f_8_53, ml_8_266, w_Mo_readSimple, f_8_50, kb_10, Mh_y, Mh_1, Mh_s1, Mh_2, Mh_s2, Mh_3, Mh_s3, Mh_4, Mh_s4, Mh_5, Mh_s5, Mh_6, Mh_s6, Mh_7, Mh_s7, Mh_8, Mh_s8, Mh_9, Mh_s9, Mh_10, Mh_s10, Mh_11, Mh_s11, Mh_12, Mh_s12, Mh_13, Mh_s13, Mh_14, Mh_s14, Mh_15, Mh_s15, Mh_16, Mh_s16, Mh_17, Mh_s17, Mh_18, Mh_s18, Mh_19, Mh_s19, Mh_20, Mh_s20, Mh_21, Mh_s21, Mh_22, Mh_s22, Mh_23, Mh_s23, Mh_24, Mh_s24, Mh_p, nI_1]
  refine q_c0 (Nat.le_refl _) (Nat.le_refl _) ?_
  refine c_Mo_dataAt (d := dd) R4 hf.1.2.2.2.1 hf.1.1.1 (by omega) ?_
  rw [b_df _ (Nat.not_lt.mpr (pl (g + 1) (by omega)).1)]
  simp -implicitDefEqProofs only [s_go, s_nil, s_cons, q_ins, s_op, s_i, s_j, s_a, s_v, s_li, s_lj, s_la, s_liO, s_ljO, s_laO, q_get, q_p1, q_p2, s_n2i, s_n2r, s_n2l, s_n2n, q_pad, q_ar, s_ob, s_obO, q_nth, s_ri, s_riO, s_rb, s_rbO, s_rzO, s_rl, s_rlO, s_rq, s_rqO, s_ry, s_ryO, s_dn, s_tl, s_tn, s_ap, s_an, s_ci, s_cr, s_ni, s_n0, s_n1, q_ags, q_cat, List.contains_nil, List.contains_cons, Nat.reduceBEq, Bool.or_false, Bool.false_or, Bool.true_or, Bool.false_eq_true, ↓reduceIte, Nat.le_refl, Nat.zero_le, true_and, and_true, Nat.reduceLeDiff, Nat.reduceAdd, Nat.add_zero, Nat.zero_add, List.length_cons, List.length_nil, List.set_cons_zero, List.set_cons_succ, Nat.reduceLT, s_fi, s_fl, s_fo, s_fa, s_f0, s_f1, s_set, s_ss, lg_cmp_ge, lg_cmp_le, lg_cmp_gt, lg_cmp_lt, lg_cmp_eq, s_brT, s_brF, s_10, w_Mo_begin, r_Mo_begin, l_Mo_begin_0, l_Mo_begin_52, l_Mo_begin_92, l_Mo_begin_93, l_Mo_begin_104, l_Mo_begin_139, l_Mo_begin_154, f_8_41, kc_0, f_8_44, f_8_59, f_8_47, ml_8_181, w_Mo_dataAt, kc_1, ml_8_128, w_Mo_tableAt, kj_0, ml_8_263, w_Mo_s16, kc_m1, kb_32, ml_8_109, w_Mo_need, f_8_105, f_8_56, f_8_53, ml_8_266, w_Mo_readSimple, f_8_50, kb_10, Mh_y, Mh_1, Mh_s1, Mh_2, Mh_s2, Mh_3, Mh_s3, Mh_4, Mh_s4, Mh_5, Mh_s5, Mh_6, Mh_s6, Mh_7, Mh_s7, Mh_8, Mh_s8, Mh_9, Mh_s9, Mh_10, Mh_s10, Mh_11, Mh_s11, Mh_12, Mh_s12, Mh_13, Mh_s13, Mh_14, Mh_s14, Mh_15, Mh_s15, Mh_16, Mh_s16, Mh_17, Mh_s17, Mh_18, Mh_s18, Mh_19, Mh_s19, Mh_20, Mh_s20, Mh_21, Mh_s21, Mh_22, Mh_s22, Mh_23, Mh_s23, Mh_24, Mh_s24, Mh_p, lN_sub ga1, lN_i]
  have hw : (t_gl F sz).1 + g_a F sz g = G_a F sz g := rfl
  have he : G_a F sz g + (g_a F sz (g + 1) - g_a F sz g) = G_a F sz (g + 1) := by unfold G_a; omega
  refine ⟨fun c => ?_, fun c => ?_⟩
  · have c : g_a F sz (g + 1) - g_a F sz g = 0 := (nI_inj (b := 0) (by omega) (by omega)).mp c
    exact q1 (by omega) h4 E4 K4 ⟨p11, p12, fun j hj => absurd hj (by show ¬ j < 0; omega)⟩ p17
  have c : g_a F sz g ≠ g_a F sz (g + 1) := fun z => c (by rw [z, Nat.sub_self]; rfl)
  have bd := U16_lt hb (G_a F sz g) (g_a F sz (g + 1) - g_a F sz g) 0
  refine q_c0 (Nat.le_refl _) (Nat.le_refl _) ?_
  refine c_Mo_tableAt (t := 1) R4.2.1 (by omega) ?_
  rw [show (TB F sz 1).1 = (t_gl F sz).1 from rfl]
  simp -implicitDefEqProofs only [s_go, s_nil, s_cons, q_ins, s_op, s_i, s_j, s_a, s_v, s_li, s_lj, s_la, s_liO, s_ljO, s_laO, q_get, q_p1, q_p2, s_n2i, s_n2r, s_n2l, s_n2n, q_pad, q_ar, s_ob, s_obO, q_nth, s_ri, s_riO, s_rb, s_rbO, s_rzO, s_rl, s_rlO, s_rq, s_rqO, s_ry, s_ryO, s_dn, s_tl, s_tn, s_ap, s_an, s_ci, s_cr, s_ni, s_n0, s_n1, q_ags, q_cat, List.contains_nil, List.contains_cons, Nat.reduceBEq, Bool.or_false, Bool.false_or, Bool.true_or, Bool.false_eq_true, ↓reduceIte, Nat.le_refl, Nat.zero_le, true_and, and_true, Nat.reduceLeDiff, Nat.reduceAdd, Nat.add_zero, Nat.zero_add, List.length_cons, List.length_nil, List.set_cons_zero, List.set_cons_succ, Nat.reduceLT, s_fi, s_fl, s_fo, s_fa, s_f0, s_f1, s_set, s_ss, lg_cmp_ge, lg_cmp_le, lg_cmp_gt, lg_cmp_lt, lg_cmp_eq, s_brT, s_brF, s_10, w_Mo_begin, r_Mo_begin, l_Mo_begin_0, l_Mo_begin_52, l_Mo_begin_92, l_Mo_begin_93, l_Mo_begin_104, l_Mo_begin_139, l_Mo_begin_154, f_8_41, kc_0, f_8_44, f_8_59, f_8_47, ml_8_181, w_Mo_dataAt, kc_1, ml_8_128, w_Mo_tableAt, kj_0, ml_8_263, w_Mo_s16, kc_m1, kb_32, ml_8_109, w_Mo_need, f_8_105, f_8_56, f_8_53, ml_8_266, w_Mo_readSimple, f_8_50, kb_10, Mh_y, Mh_1, Mh_s1, Mh_2, Mh_s2, Mh_3, Mh_s3, Mh_4, Mh_s4, Mh_5, Mh_s5, Mh_6, Mh_s6, Mh_7, Mh_s7, Mh_8, Mh_s8, Mh_9, Mh_s9, Mh_10, Mh_s10, Mh_11, Mh_s11, Mh_12, Mh_s12, Mh_13, Mh_s13, Mh_14, Mh_s14, Mh_15, Mh_s15, Mh_16, Mh_s16, Mh_17, Mh_s17, Mh_18, Mh_s18, Mh_19, Mh_s19, Mh_20, Mh_s20, Mh_21, Mh_s21, Mh_22, Mh_s22, Mh_23, Mh_s23, Mh_24, Mh_s24, Mh_p, lN_i, nI_add, hw, nI_l (show g_a F sz (g + 1) - g_a F sz g < 2 ^ 31 by omega)]
  refine q_c0 (Nat.le_refl _) (Nat.le_refl _) ?_
  refine c_Mo_s16 (d := dd + 2) (a := 0) R4.1 hb (by omega) hs (by omega) ?_
  rw [Bool.false_or]
  have J : ∀ so : Bool, (so = true ↔ U16 F (G_a F sz g) (g_a F sz (g + 1) - g_a F sz g) 0 = 65535 ∨ U16 F (G_a F sz g) (g_a F sz (g + 1) - g_a F sz g) 0 ≤ 32) → q_Z G l M_Mo_begin (dd + 6) 0 0 Q 93 [some (.ref y), some (.int (nI g)), some (.int (nI d)), some (.long (lN (g_a F sz g))), none, some (.int (nI (g_a F sz (g + 1) - g_a F sz g))), some (.int (nI (G_a F sz g))), some (.int (iI (S16 (U16 F (G_a F sz g) (g_a F sz (g + 1) - g_a F sz g) 0))))] [.int (bI so), .ref y] (Mh h4 y fa si fo wi of_ (bI (decide (g_a F sz (g + 1) - g_a F sz g < 2))) pr le) n 0 0 := by
    intro so e1
    refine q_at o_Mo_begin [] 20 l_Mo_begin_93 ?_
    simp -implicitDefEqProofs only [s_go, s_nil, s_cons, q_ins, s_op, s_i, s_j, s_a, s_v, s_li, s_lj, s_la, s_liO, s_ljO, s_laO, q_get, q_p1, q_p2, s_n2i, s_n2r, s_n2l, s_n2n, q_pad, q_ar, s_ob, s_obO, q_nth, s_ri, s_riO, s_rb, s_rbO, s_rzO, s_rl, s_rlO, s_rq, s_rqO, s_ry, s_ryO, s_dn, s_tl, s_tn, s_ap, s_an, s_ci, s_cr, s_ni, s_n0, s_n1, q_ags, q_cat, List.contains_nil, List.contains_cons, Nat.reduceBEq, Bool.or_false, Bool.false_or, Bool.true_or, Bool.false_eq_true, ↓reduceIte, Nat.le_refl, Nat.zero_le, true_and, and_true, Nat.reduceLeDiff, Nat.reduceAdd, Nat.add_zero, Nat.zero_add, List.length_cons, List.length_nil, List.set_cons_zero, List.set_cons_succ, Nat.reduceLT, s_fi, s_fl, s_fo, s_fa, s_f0, s_f1, s_set, s_ss, lg_cmp_ge, lg_cmp_le, lg_cmp_gt, lg_cmp_lt, lg_cmp_eq, s_brT, s_brF, s_10, w_Mo_begin, r_Mo_begin, l_Mo_begin_0, l_Mo_begin_52, l_Mo_begin_92, l_Mo_begin_93, l_Mo_begin_104, l_Mo_begin_139, l_Mo_begin_154, f_8_41, kc_0, f_8_44, f_8_59, f_8_47, ml_8_181, w_Mo_dataAt, kc_1, ml_8_128, w_Mo_tableAt, kj_0, ml_8_263, w_Mo_s16, kc_m1, kb_32, ml_8_109, w_Mo_need, f_8_105, f_8_56, f_8_53, ml_8_266, w_Mo_readSimple, f_8_50, kb_10, Mh_y, Mh_1, Mh_s1, Mh_2, Mh_s2, Mh_3, Mh_s3, Mh_4, Mh_s4, Mh_5, Mh_s5, Mh_6, Mh_s6, Mh_7, Mh_s7, Mh_8, Mh_s8, Mh_9, Mh_s9, Mh_10, Mh_s10, Mh_11, Mh_s11, Mh_12, Mh_s12, Mh_13, Mh_s13, Mh_14, Mh_s14, Mh_15, Mh_s15, Mh_16, Mh_s16, Mh_17, Mh_s17, Mh_18, Mh_s18, Mh_19, Mh_s19, Mh_20, Mh_s20, Mh_21, Mh_s21, Mh_22, Mh_s22, Mh_23, Mh_s23, Mh_24, Mh_s24, Mh_p]
    refine q_c0 (Nat.le_refl _) (Nat.le_refl _) ?_
    refine c_Mo_need rfl ?_
    cases hbb : (decide (g_a F sz (g + 1) - g_a F sz g < 2) || !so) with
    | true =>
      simp -implicitDefEqProofs only [s_go, s_nil, s_cons, q_ins, s_op, s_i, s_j, s_a, s_v, s_li, s_lj, s_la, s_liO, s_ljO, s_laO, q_get, q_p1, q_p2, s_n2i, s_n2r, s_n2l, s_n2n, q_pad, q_ar, s_ob, s_obO, q_nth, s_ri, s_riO, s_rb, s_rbO, s_rzO, s_rl, s_rlO, s_rq, s_rqO, s_ry, s_ryO, s_dn, s_tl, s_tn, s_ap, s_an, s_ci, s_cr, s_ni, s_n0, s_n1, q_ags, q_cat, List.contains_nil, List.contains_cons, Nat.reduceBEq, Bool.or_false, Bool.false_or, Bool.true_or, Bool.false_eq_true, ↓reduceIte, Nat.le_refl, Nat.zero_le, true_and, and_true, Nat.reduceLeDiff, Nat.reduceAdd, Nat.add_zero, Nat.zero_add, List.length_cons, List.length_nil, List.set_cons_zero, List.set_cons_succ, Nat.reduceLT, s_fi, s_fl, s_fo, s_fa, s_f0, s_f1, s_set, s_ss, lg_cmp_ge, lg_cmp_le, lg_cmp_gt, lg_cmp_lt, lg_cmp_eq, s_brT, s_brF, s_10, w_Mo_begin, r_Mo_begin, l_Mo_begin_0, l_Mo_begin_52, l_Mo_begin_92, l_Mo_begin_93, l_Mo_begin_104, l_Mo_begin_139, l_Mo_begin_154, f_8_41, kc_0, f_8_44, f_8_59, f_8_47, ml_8_181, w_Mo_dataAt, kc_1, ml_8_128, w_Mo_tableAt, kj_0, ml_8_263, w_Mo_s16, kc_m1, kb_32, ml_8_109, w_Mo_need, f_8_105, f_8_56, f_8_53, ml_8_266, w_Mo_readSimple, f_8_50, kb_10, Mh_y, Mh_1, Mh_s1, Mh_2, Mh_s2, Mh_3, Mh_s3, Mh_4, Mh_s4, Mh_5, Mh_s5, Mh_6, Mh_s6, Mh_7, Mh_s7, Mh_8, Mh_s8, Mh_9, Mh_s9, Mh_10, Mh_s10, Mh_11, Mh_s11, Mh_12, Mh_s12, Mh_13, Mh_s13, Mh_14, Mh_s14, Mh_15, Mh_s15, Mh_16, Mh_s16, Mh_17, Mh_s17, Mh_18, Mh_s18, Mh_19, Mh_s19, Mh_20, Mh_s20, Mh_21, Mh_s21, Mh_22, Mh_s22, Mh_23, Mh_s23, Mh_24, Mh_s24, Mh_p, bI_0, reduceCtorEq]
      refine q0 c ?_ h4 E4 K4
      rw [Bool.or_eq_true, decide_eq_true_eq] at hbb
      rcases hbb with z | z
      · left
        omega
      · rcases Nat.lt_or_ge (g_a F sz (g + 1) - g_a F sz g) 2 with z2 | z2
        · left
          omega
        · right
          have ev : U16 F (G_a F sz g) (g_a F sz (g + 1) - g_a F sz g) 0 = w2 F (G_a F sz g) := U16_in (by omega)
          rw [ev] at e1
          cases so
          · have : ¬ (w2 F (G_a F sz g) = 65535 ∨ w2 F (G_a F sz g) ≤ 32) := fun q => Bool.false_ne_true (e1.mpr q)
            exact ⟨fun q => this (Or.inl q), fun q => this (Or.inr q.1)⟩
          · cases z
    | false =>
      rw [Bool.or_eq_false_iff, decide_eq_false_iff_not, Bool.not_eq_false', e1] at hbb
      obtain ⟨t0, t1⟩ := hbb
      have ev : U16 F (G_a F sz g) (g_a F sz (g + 1) - g_a F sz g) 0 = w2 F (G_a F sz g) := U16_in (by omega)
      rw [ev] at t1 ⊢
      rw [ev] at bd
      obtain ⟨g16, e16⟩ := E4 16 (by omega) (by omega)
      obtain ⟨g15, e15⟩ := E4 15 (by omega) (by omega)
      have e16 : h4 (y + 16) = some (.inl (0, 6, .inl g16)) := e16
      have e15 : wr h4 (y + 16) d (nI (g_a F sz (g + 1) - g_a F sz g)) (y + 15) = some (.inl (0, 6, .inl g15)) := (wr_o (by omega)).trans e15
      simp -implicitDefEqProofs only [s_go, s_nil, s_cons, q_ins, s_op, s_i, s_j, s_a, s_v, s_li, s_lj, s_la, s_liO, s_ljO, s_laO, q_get, q_p1, q_p2, s_n2i, s_n2r, s_n2l, s_n2n, q_pad, q_ar, s_ob, s_obO, q_nth, s_ri, s_riO, s_rb, s_rbO, s_rzO, s_rl, s_rlO, s_rq, s_rqO, s_ry, s_ryO, s_dn, s_tl, s_tn, s_ap, s_an, s_ci, s_cr, s_ni, s_n0, s_n1, q_ags, q_cat, List.contains_nil, List.contains_cons, Nat.reduceBEq, Bool.or_false, Bool.false_or, Bool.true_or, Bool.false_eq_true, ↓reduceIte, Nat.le_refl, Nat.zero_le, true_and, and_true, Nat.reduceLeDiff, Nat.reduceAdd, Nat.add_zero, Nat.zero_add, List.length_cons, List.length_nil, List.set_cons_zero, List.set_cons_succ, Nat.reduceLT, s_fi, s_fl, s_fo, s_fa, s_f0, s_f1, s_set, s_ss, lg_cmp_ge, lg_cmp_le, lg_cmp_gt, lg_cmp_lt, lg_cmp_eq, s_brT, s_brF, s_10, w_Mo_begin, r_Mo_begin, l_Mo_begin_0, l_Mo_begin_52, l_Mo_begin_92, l_Mo_begin_93, l_Mo_begin_104, l_Mo_begin_139, l_Mo_begin_154, f_8_41, kc_0, f_8_44, f_8_59, f_8_47, ml_8_181, w_Mo_dataAt, kc_1, ml_8_128, w_Mo_tableAt, kj_0, ml_8_263, w_Mo_s16, kc_m1, kb_32, ml_8_109, w_Mo_need, f_8_105, f_8_56, f_8_53, ml_8_266, w_Mo_readSimple, f_8_50, kb_10, Mh_y, Mh_1, Mh_s1, Mh_2, Mh_s2, Mh_3, Mh_s3, Mh_4, Mh_s4, Mh_5, Mh_s5, Mh_6, Mh_s6, Mh_7, Mh_s7, Mh_8, Mh_s8, Mh_9, Mh_s9, Mh_10, Mh_s10, Mh_11, Mh_s11, Mh_12, Mh_s12, Mh_13, Mh_s13, Mh_14, Mh_s14, Mh_15, Mh_s15, Mh_16, Mh_s16, Mh_17, Mh_s17, Mh_18, Mh_s18, Mh_19, Mh_s19, Mh_20, Mh_s20, Mh_21, Mh_s21, Mh_22, Mh_s22, Mh_23, Mh_s23, Mh_24, Mh_s24, Mh_p, bI_0, eq_self, e16, wr_of e16, e15, wr_of e15, nI_clamp (show d < 2 ^ 31 by omega), q_k2 bd]
      refine ⟨vp_in_nI (by omega) (by omega), vp_in_nI (by omega) (by omega), ?_⟩
      have E5 : MoE (wr (wr h4 (y + 16) d (nI (g_a F sz (g + 1) - g_a F sz g))) (y + 15) d (nI (G_a F sz g))) y := E4.up.up
      have K5 : KB h (wr (wr h4 (y + 16) d (nI (g_a F sz (g + 1) - g_a F sz g))) (y + 15) d (nI (G_a F sz g))) y d := (K4.tr (KB.up (by omega) (by omega))).tr (KB.up (by omega) (by omega))
      have p16 : ar (wr (wr h4 (y + 16) d (nI (g_a F sz (g + 1) - g_a F sz g))) (y + 15) d (nI (G_a F sz g))) (y + 16) d = nI (g_a F sz (g + 1) - g_a F sz g) := (wr_an (Or.inl (by omega))).trans (E4.w (by omega) (by omega))
      have p15 : ar (wr (wr h4 (y + 16) d (nI (g_a F sz (g + 1) - g_a F sz g))) (y + 15) d (nI (G_a F sz g))) (y + 15) d = nI (G_a F sz g) := E4.up.w (by omega) (by omega)
      have pk : ∀ k, k ≠ 15 → k ≠ 16 → ar (wr (wr h4 (y + 16) d (nI (g_a F sz (g + 1) - g_a F sz g))) (y + 15) d (nI (G_a F sz g))) (y + k) d = ar h4 (y + k) d := fun k k1 k2 => (wr_an (Or.inl (by omega))).trans (wr_an (Or.inl (by omega)))
      generalize wr (wr h4 (y + 16) d (nI (g_a F sz (g + 1) - g_a F sz g))) (y + 15) d (nI (G_a F sz g)) = h5 at E5 K5 p16 p15 pk ⊢
      refine ⟨fun z => ?_, fun z => ?_⟩
      · have z : w2 F (G_a F sz g) = 65535 := by omega
        obtain ⟨g17', e17'⟩ := E5 17 (by omega) (by omega)
        obtain ⟨g14, e14⟩ := E5 14 (by omega) (by omega)
        have e17' : h5 (y + 17) = some (.inl (3, 6, .inl g17')) := e17'
        have e14 : wr h5 (y + 17) d 1 (y + 14) = some (.inl (0, 6, .inl g14)) := (wr_o (by omega)).trans e14
        simp -implicitDefEqProofs only [s_go, s_nil, s_cons, q_ins, s_op, s_i, s_j, s_a, s_v, s_li, s_lj, s_la, s_liO, s_ljO, s_laO, q_get, q_p1, q_p2, s_n2i, s_n2r, s_n2l, s_n2n, q_pad, q_ar, s_ob, s_obO, q_nth, s_ri, s_riO, s_rb, s_rbO, s_rzO, s_rl, s_rlO, s_rq, s_rqO, s_ry, s_ryO, s_dn, s_tl, s_tn, s_ap, s_an, s_ci, s_cr, s_ni, s_n0, s_n1, q_ags, q_cat, List.contains_nil, List.contains_cons, Nat.reduceBEq, Bool.or_false, Bool.false_or, Bool.true_or, Bool.false_eq_true, ↓reduceIte, Nat.le_refl, Nat.zero_le, true_and, and_true, Nat.reduceLeDiff, Nat.reduceAdd, Nat.add_zero, Nat.zero_add, List.length_cons, List.length_nil, List.set_cons_zero, List.set_cons_succ, Nat.reduceLT, s_fi, s_fl, s_fo, s_fa, s_f0, s_f1, s_set, s_ss, lg_cmp_ge, lg_cmp_le, lg_cmp_gt, lg_cmp_lt, lg_cmp_eq, s_brT, s_brF, s_10, w_Mo_begin, r_Mo_begin, l_Mo_begin_0, l_Mo_begin_52, l_Mo_begin_92, l_Mo_begin_93, l_Mo_begin_104, l_Mo_begin_139, l_Mo_begin_154, f_8_41, kc_0, f_8_44, f_8_59, f_8_47, ml_8_181, w_Mo_dataAt, kc_1, ml_8_128, w_Mo_tableAt, kj_0, ml_8_263, w_Mo_s16, kc_m1, kb_32, ml_8_109, w_Mo_need, f_8_105, f_8_56, f_8_53, ml_8_266, w_Mo_readSimple, f_8_50, kb_10, Mh_y, Mh_1, Mh_s1, Mh_2, Mh_s2, Mh_3, Mh_s3, Mh_4, Mh_s4, Mh_5, Mh_s5, Mh_6, Mh_s6, Mh_7, Mh_s7, Mh_8, Mh_s8, Mh_9, Mh_s9, Mh_10, Mh_s10, Mh_11, Mh_s11, Mh_12, Mh_s12, Mh_13, Mh_s13, Mh_14, Mh_s14, Mh_15, Mh_s15, Mh_16, Mh_s16, Mh_17, Mh_s17, Mh_18, Mh_s18, Mh_19, Mh_s19, Mh_20, Mh_s20, Mh_21, Mh_s21, Mh_22, Mh_s22, Mh_23, Mh_s23, Mh_24, Mh_s24, Mh_p, e17', wr_of e17', e14, wr_of e14, show vp_nar (q_kind 3) 1 = 1 from rfl, nI_clamp (show d < 2 ^ 31 by omega)]
        refine ⟨vp_in_nI (by omega) (by omega), vp_in_nI (by omega) (by omega), ?_⟩
        refine q3 c z _ E5.up.up ((K5.tr (KB.up (by omega) (by omega))).tr (KB.up (by omega) (by omega))) ⟨?_, ?_, fun j hj => absurd hj (by show ¬ j < 0; omega)⟩ ?_ ?_ ?_ ?_ ?_
        · rw [wr_an (Or.inl (by omega)), wr_an (Or.inl (by omega)), pk _ (by omega) (by omega), p11]
          rfl
        · rw [wr_an (Or.inl (by omega)), wr_an (Or.inl (by omega)), pk _ (by omega) (by omega), p12]
          rfl
        · rw [wr_an (Or.inl (by omega)), E5.w (by omega) (by omega)]
        · rw [wr_an (Or.inl (by omega)), wr_an (Or.inl (by omega)), pk _ (by omega) (by omega), p13]
        · rw [E5.up.w (by omega) (by omega)]
        · rw [wr_an (Or.inl (by omega)), wr_an (Or.inl (by omega)), p15]
        · rw [wr_an (Or.inl (by omega)), wr_an (Or.inl (by omega)), p16]
      · have z : w2 F (G_a F sz g) ≤ 32 := by omega
        have es : iI (S16 (w2 F (G_a F sz g))) = nI (w2 F (G_a F sz g)) := by unfold S16; rw [if_neg (by omega)]; rfl
        rw [es]
        refine q_c0 (Nat.le_refl _) (Nat.le_refl _) ?_
        refine c_Mo_readSimple (dd := dd) hd z hb hs (by omega) (R.kb K5).1 E5 (fun sim h6 E6 K6 P6 => ?_) (fun sim h6 E6 K6 => ?_)
        · rw [he] at sim P6
          simp -implicitDefEqProofs only [s_go, s_nil, s_cons, q_ins, s_op, s_i, s_j, s_a, s_v, s_li, s_lj, s_la, s_liO, s_ljO, s_laO, q_get, q_p1, q_p2, s_n2i, s_n2r, s_n2l, s_n2n, q_pad, q_ar, s_ob, s_obO, q_nth, s_ri, s_riO, s_rb, s_rbO, s_rzO, s_rl, s_rlO, s_rq, s_rqO, s_ry, s_ryO, s_dn, s_tl, s_tn, s_ap, s_an, s_ci, s_cr, s_ni, s_n0, s_n1, q_ags, q_cat, List.contains_nil, List.contains_cons, Nat.reduceBEq, Bool.or_false, Bool.false_or, Bool.true_or, Bool.false_eq_true, ↓reduceIte, Nat.le_refl, Nat.zero_le, true_and, and_true, Nat.reduceLeDiff, Nat.reduceAdd, Nat.add_zero, Nat.zero_add, List.length_cons, List.length_nil, List.set_cons_zero, List.set_cons_succ, Nat.reduceLT, s_fi, s_fl, s_fo, s_fa, s_f0, s_f1, s_set, s_ss, lg_cmp_ge, lg_cmp_le, lg_cmp_gt, lg_cmp_lt, lg_cmp_eq, s_brT, s_brF, s_10, w_Mo_begin, r_Mo_begin, l_Mo_begin_0, l_Mo_begin_52, l_Mo_begin_92, l_Mo_begin_93, l_Mo_begin_104, l_Mo_begin_139, l_Mo_begin_154, f_8_41, kc_0, f_8_44, f_8_59, f_8_47, ml_8_181, w_Mo_dataAt, kc_1, ml_8_128, w_Mo_tableAt, kj_0, ml_8_263, w_Mo_s16, kc_m1, kb_32, ml_8_109, w_Mo_need, f_8_105, f_8_56, f_8_53, ml_8_266, w_Mo_readSimple, f_8_50, kb_10, Mh_y, Mh_1, Mh_s1, Mh_2, Mh_s2, Mh_3, Mh_s3, Mh_4, Mh_s4, Mh_5, Mh_s5, Mh_6, Mh_s6, Mh_7, Mh_s7, Mh_8, Mh_s8, Mh_9, Mh_s9, Mh_10, Mh_s10, Mh_11, Mh_s11, Mh_12, Mh_s12, Mh_13, Mh_s13, Mh_14, Mh_s14, Mh_15, Mh_s15, Mh_16, Mh_s16, Mh_17, Mh_s17, Mh_18, Mh_s18, Mh_19, Mh_s19, Mh_20, Mh_s20, Mh_21, Mh_s21, Mh_22, Mh_s22, Mh_23, Mh_s23, Mh_24, Mh_s24, Mh_p]
          refine q2 c z sim h6 E6 (K5.tr K6.kb) P6 ?_
          rw [ar_h (K6.1 _ (by omega)), pk _ (by omega) (by omega), p17]
        · rw [he] at sim
          simp -implicitDefEqProofs only [s_go, s_nil, s_cons, q_ins, s_op, s_i, s_j, s_a, s_v, s_li, s_lj, s_la, s_liO, s_ljO, s_laO, q_get, q_p1, q_p2, s_n2i, s_n2r, s_n2l, s_n2n, q_pad, q_ar, s_ob, s_obO, q_nth, s_ri, s_riO, s_rb, s_rbO, s_rzO, s_rl, s_rlO, s_rq, s_rqO, s_ry, s_ryO, s_dn, s_tl, s_tn, s_ap, s_an, s_ci, s_cr, s_ni, s_n0, s_n1, q_ags, q_cat, List.contains_nil, List.contains_cons, Nat.reduceBEq, Bool.or_false, Bool.false_or, Bool.true_or, Bool.false_eq_true, ↓reduceIte, Nat.le_refl, Nat.zero_le, true_and, and_true, Nat.reduceLeDiff, Nat.reduceAdd, Nat.add_zero, Nat.zero_add, List.length_cons, List.length_nil, List.set_cons_zero, List.set_cons_succ, Nat.reduceLT, s_fi, s_fl, s_fo, s_fa, s_f0, s_f1, s_set, s_ss, lg_cmp_ge, lg_cmp_le, lg_cmp_gt, lg_cmp_lt, lg_cmp_eq, s_brT, s_brF, s_10, w_Mo_begin, r_Mo_begin, l_Mo_begin_0, l_Mo_begin_52, l_Mo_begin_92, l_Mo_begin_93, l_Mo_begin_104, l_Mo_begin_139, l_Mo_begin_154, f_8_41, kc_0, f_8_44, f_8_59, f_8_47, ml_8_181, w_Mo_dataAt, kc_1, ml_8_128, w_Mo_tableAt, kj_0, ml_8_263, w_Mo_s16, kc_m1, kb_32, ml_8_109, w_Mo_need, f_8_105, f_8_56, f_8_53, ml_8_266, w_Mo_readSimple, f_8_50, kb_10, Mh_y, Mh_1, Mh_s1, Mh_2, Mh_s2, Mh_3, Mh_s3, Mh_4, Mh_s4, Mh_5, Mh_s5, Mh_6, Mh_s6, Mh_7, Mh_s7, Mh_8, Mh_s8, Mh_9, Mh_s9, Mh_10, Mh_s10, Mh_11, Mh_s11, Mh_12, Mh_s12, Mh_13, Mh_s13, Mh_14, Mh_s14, Mh_15, Mh_s15, Mh_16, Mh_s16, Mh_17, Mh_s17, Mh_18, Mh_s18, Mh_19, Mh_s19, Mh_20, Mh_s20, Mh_21, Mh_s21, Mh_22, Mh_s22, Mh_23, Mh_s23, Mh_24, Mh_s24, Mh_p]
          exact q0 c (Or.inr ⟨by omega, fun q => sim q.2⟩) h6 E6 (K5.tr K6.kb)
  simp -implicitDefEqProofs only [s_go, s_nil, s_cons, q_ins, s_op, s_i, s_j, s_a, s_v, s_li, s_lj, s_la, s_liO, s_ljO, s_laO, q_get, q_p1, q_p2, s_n2i, s_n2r, s_n2l, s_n2n, q_pad, q_ar, s_ob, s_obO, q_nth, s_ri, s_riO, s_rb, s_rbO, s_rzO, s_rl, s_rlO, s_rq, s_rqO, s_ry, s_ryO, s_dn, s_tl, s_tn, s_ap, s_an, s_ci, s_cr, s_ni, s_n0, s_n1, q_ags, q_cat, List.contains_nil, List.contains_cons, Nat.reduceBEq, Bool.or_false, Bool.false_or, Bool.true_or, Bool.false_eq_true, ↓reduceIte, Nat.le_refl, Nat.zero_le, true_and, and_true, Nat.reduceLeDiff, Nat.reduceAdd, Nat.add_zero, Nat.zero_add, List.length_cons, List.length_nil, List.set_cons_zero, List.set_cons_succ, Nat.reduceLT, s_fi, s_fl, s_fo, s_fa, s_f0, s_f1, s_set, s_ss, lg_cmp_ge, lg_cmp_le, lg_cmp_gt, lg_cmp_lt, lg_cmp_eq, s_brT, s_brF, s_10, w_Mo_begin, r_Mo_begin, l_Mo_begin_0, l_Mo_begin_52, l_Mo_begin_92, l_Mo_begin_93, l_Mo_begin_104, l_Mo_begin_139, l_Mo_begin_154, f_8_41, kc_0, f_8_44, f_8_59, f_8_47, ml_8_181, w_Mo_dataAt, kc_1, ml_8_128, w_Mo_tableAt, kj_0, ml_8_263, w_Mo_s16, kc_m1, kb_32, ml_8_109, w_Mo_need, f_8_105, f_8_56, f_8_53, ml_8_266, w_Mo_readSimple, f_8_50, kb_10, Mh_y, Mh_1, Mh_s1, Mh_2, Mh_s2, Mh_3, Mh_s3, Mh_4, Mh_s4, Mh_5, Mh_s5, Mh_6, Mh_s6, Mh_7, Mh_s7, Mh_8, Mh_s8, Mh_9, Mh_s9, Mh_10, Mh_s10, Mh_11, Mh_s11, Mh_12, Mh_s12, Mh_13, Mh_s13, Mh_14, Mh_s14, Mh_15, Mh_s15, Mh_16, Mh_s16, Mh_17, Mh_s17, Mh_18, Mh_s18, Mh_19, Mh_s19, Mh_20, Mh_s20, Mh_21, Mh_s21, Mh_22, Mh_s22, Mh_23, Mh_s23, Mh_24, Mh_s24, Mh_p, q_k4 bd, q_k3 bd]
  exact ⟨fun z => J false ⟨fun q => (by cases q), fun q => by omega⟩, fun z => ⟨fun z2 => J false ⟨fun q => (by cases q), fun q => by omega⟩, fun z2 => J true ⟨fun _ => by omega, fun _ => rfl⟩⟩⟩
