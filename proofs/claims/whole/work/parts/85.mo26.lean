/-! the reference: readGlyph, checkGlyphs -/
theorem TH_s {G : q_G} {l : Launch} {dd y n sz R : Nat} {fa si fo wi of_ : Int32} {F : Nat → Nat} {Q : q_P} (hf : FORM_ok F sz) (IH : 1 ≤ R → TH G l dd y n F sz fa si fo wi of_ Q R) : TH G l dd y n F sz fa si fo wi of_ Q (R + 1) := by
  intro d g c h le Qb hd hg hc E R' hle kz k1 k0
  have rd : RD F sz (R + 1) g c = if f_N F sz ≤ g then none else if g_a F sz g = g_a F sz (g + 1) then some ([], 0, c, g) else if G_a F sz (g + 1) < G_a F sz g + 10 then none else
    if w2 F (G_a F sz g) = 65535 then PR F (G_a F sz (g + 1)) (RD F sz R) 16 [] 0 c g (G_a F sz g + 10) else
    cI (w2 F (G_a F sz g) ≤ 32 ∧ SIM_ok F (G_a F sz (g + 1)) (G_a F sz g + 10) 0 (w2 F (G_a F sz g))) (some (SIMP F (G_a F sz (g + 1)) (G_a F sz g + 10) (w2 F (G_a F sz g)), w2 F (G_a F sz g), c, g)) none := rfl
  rw [if_neg (by omega)] at rd
  have gi : (t_gl F sz).1 + (t_gl F sz).2 ≤ sz := R'.2.2.2.2 1 (by omega)
  have hs := R'.2.2.1
  obtain ⟨ga1, ga2⟩ := FO_ga hf hg
  have he : G_a F sz g + (g_a F sz (g + 1) - g_a F sz g) = G_a F sz (g + 1) := by unfold G_a; omega
  have hG : G_a F sz (g + 1) ≤ sz := by unfold G_a; omega
  refine c_Mo_begin (dd := dd) (by omega) hf hg R' E (fun c0 h' E' K' P' m' => ?_) (fun c0 c1 c2 h' E' K' P' m' => ?_) (fun c0 c1 h' E' K' P' m' p13 p14 p15 p16 => ?_) (fun c0 c1 h' E' K' => ?_)
  · rw [if_pos c0] at rd
    refine kz _ (k1 _ _ _ _ rd h' le E' K'.kd P' m' (fun z => ?_) (fun _ => rfl))
    unfold LG
    rw [if_pos c0]
    exact hle z
  · have len : G_a F sz g + 10 ≤ G_a F sz (g + 1) := by have := c2.1.2.1; omega
    rw [if_neg c0, if_neg (by omega), if_neg (by omega), cI_p ⟨c1, c2⟩] at rd
    refine kz _ (k1 _ _ _ _ rd h' le E' K'.kd P' m' (fun z => ?_) (fun _ => rfl))
    unfold LG
    rw [if_neg c0, if_neg (by omega)]
    exact hle z
  · have lg : LG F sz g = LF F 16 (G_a F sz g + 10) none := by
      unfold LG
      rw [if_neg c0, if_pos c1]
    rw [if_neg c0, if_pos c1] at rd
    refine kz _ (u_Mo (w := G_a F sz g) (ln := g_a F sz (g + 1) - g_a F sz g) IH (by omega) hf.1.1.2.1 (by omega) 16 [] 0 c g 10 none h' le (by omega) (by omega) ⟨by show (0 : Nat) ≤ 0; omega, by show (0 : Nat) ≤ 512; omega, hc, fun P hP => absurd hP (List.not_mem_nil), hg⟩ E' (R'.kb K') P' m' p13 p14 ⟨p15, p16⟩ hle (fun L rg' c' wg hp h2 le2 E2 K2 P2 m2 l0 l1 => ?_) (fun hp h2 pr2 le2 E2 K2 => ?_))
    · rw [he] at hp
      have len : ¬ G_a F sz (g + 1) < G_a F sz g + 10 := by
        intro z
        unfold PR at hp
        rw [if_neg (by
          rintro ⟨-, q, -⟩
          have p4 : PA4 F (G_a F sz g + 10) = G_a F sz g + 10 + 4 + 2 * NW (w2 F (G_a F sz g + 10)) + 2 * NF (w2 F (G_a F sz g + 10)) := rfl
          omega)] at hp
        cases hp
      rw [if_neg len] at rd
      exact k1 _ _ _ _ (rd.trans hp) h2 le2 E2 (K'.kd.tr K2) P2 m2 (fun z => by rw [lg]; exact l0 z) l1
    · rw [he] at hp
      refine k0 ?_ h2 pr2 le2 E2 (K'.kd.tr K2)
      rw [rd]
      split
      · rfl
      · exact hp
  · refine kz _ (x_Mo_readGlyph (by omega) (k0 ?_ h' _ _ E' K'.kd))
    rw [rd, if_neg c0]
    rcases c1 with z | ⟨z1, z2⟩
    · rw [if_pos z]
    · by_cases z3 : G_a F sz (g + 1) < G_a F sz g + 10
      · rw [if_pos z3]
      · rw [if_neg z3, if_neg z1, cI_n z2]
theorem TH_all {G : q_G} {l : Launch} {dd y n sz : Nat} {fa si fo wi of_ : Int32} {F : Nat → Nat} {Q : q_P} (hf : FORM_ok F sz) : ∀ R, 1 ≤ R → TH G l dd y n F sz fa si fo wi of_ Q R
  | 0, h => absurd h (by omega)
  | R + 1, _ => TH_s hf (TH_all hf R)
set_option maxRecDepth 100000 in
set_option maxHeartbeats 4000000 in
theorem c_Mo_readGlyph {G : q_G} {l : Launch} {dd y n g sz : Nat} {fa si fo wi of_ pr le : Int32} {F : Nat → Nat} {h : q_H} {Q : q_P} (hf : FORM_ok F sz) (hg : g < f_N F sz) (E : MoE h y) (R : MoR h y of_ F sz)
    (q1 : ∀ L rg c' wg, RD F sz 6 g 0 = some (L, rg, c', wg) → ∀ h', MoE h' y → KD h h' y 0 → PTS h' y 0 L rg → Q none (Mh h' y fa si fo wi of_ (bI false) (nI c') (lz (LG F sz g))) n)
    (q0 : RD F sz 6 g 0 = none → ∀ h' pr' le', MoE h' y → KD h h' y 0 → Q none (Mh h' y fa si fo wi of_ (bI true) pr' le') n) : q_Call G l M_Mo_readGlyph (dd + 7) 0 0 [.ref y, .int (nI g)] (Mh h y fa si fo wi of_ (bI false) pr le) n Q := by
  refine q_in u_Mo_readGlyph (by rw [L_Mo_readGlyph]; exact Nat.le_of_ble_eq_true rfl) ?_
  rw [L_Mo_readGlyph]
  refine q_at o_Mo_readGlyph [18] 20 l_Mo_readGlyph_0 ?_
  simp -implicitDefEqProofs only [s_go, s_nil, s_cons, q_ins, s_op, s_i, s_j, s_a, s_v, s_li, s_lj, s_la, s_liO, s_ljO, s_laO, q_get, q_p1, q_p2, s_n2i, s_n2r, s_n2l, s_n2n, q_pad, q_ar, s_ob, s_obO, q_nth, s_ri, s_riO, s_rb, s_rbO, s_rzO, s_rl, s_rlO, s_rq, s_rqO, s_ry, s_ryO, s_dn, s_tl, s_tn, s_ap, s_an, s_ci, s_cr, s_ni, s_n0, s_n1, q_ags, q_cat, List.contains_nil, List.contains_cons, Nat.reduceBEq, Bool.or_false, Bool.false_or, Bool.true_or, Bool.false_eq_true, ↓reduceIte, Nat.le_refl, Nat.zero_le, true_and, and_true, Nat.reduceLeDiff, Nat.reduceAdd, Nat.add_zero, Nat.zero_add, List.length_cons, List.length_nil, List.set_cons_zero, List.set_cons_succ, Nat.reduceLT, s_fi, s_fl, s_fo, s_fa, s_f0, s_f1, s_set, s_ss, lg_cmp_ge, lg_cmp_le, lg_cmp_gt, lg_cmp_lt, lg_cmp_eq, s_brT, s_brF, s_10, w_Mo_readGlyph, r_Mo_readGlyph, l_Mo_readGlyph_0, l_Mo_readGlyph_18, l_Mo_readGlyph_54, l_Mo_readGlyph_55, l_Mo_readGlyph_74, l_Mo_readGlyph_77, l_Mo_readGlyph_92, kc_0, f_8_247, ty_8_30, kc_m1, f_8_250, ty_8_31, ml_8_253, w_Mo_begin, f_8_105, f_8_59, ml_8_257, w_Mo_readPart, kc_5, kc_1, ml_8_109, w_Mo_need, ml_8_260, w_Mo_join, Mh_y, Mh_1, Mh_s1, Mh_2, Mh_s2, Mh_3, Mh_s3, Mh_4, Mh_s4, Mh_5, Mh_s5, Mh_6, Mh_s6, Mh_7, Mh_s7, Mh_8, Mh_s8, Mh_9, Mh_s9, Mh_10, Mh_s10, Mh_11, Mh_s11, Mh_12, Mh_s12, Mh_13, Mh_s13, Mh_14, Mh_s14, Mh_15, Mh_s15, Mh_16, Mh_s16, Mh_17, Mh_s17, Mh_18, Mh_s18, Mh_19, Mh_s19, Mh_20, Mh_s20, Mh_21, Mh_s21, Mh_22, Mh_s22, Mh_23, Mh_s23, Mh_24, Mh_s24, Mh_p]
  refine q_c0 (Nat.le_refl _) (Nat.le_refl _) ?_
  refine TH_all hf 6 (by omega) 0 g 0 h (-1) _ rfl hg (by omega) E R (fun _ => rfl) (fun h1 hz => ?_) (fun L rg c' wg hrd h' le' E' K' P' m' l0 _ => ?_) (fun hrd h' pr' le' E' K' => q0 hrd h' pr' le' E' K')
  · simp -implicitDefEqProofs only [s_go, s_nil, s_cons, q_ins, s_op, s_i, s_j, s_a, s_v, s_li, s_lj, s_la, s_liO, s_ljO, s_laO, q_get, q_p1, q_p2, s_n2i, s_n2r, s_n2l, s_n2n, q_pad, q_ar, s_ob, s_obO, q_nth, s_ri, s_riO, s_rb, s_rbO, s_rzO, s_rl, s_rlO, s_rq, s_rqO, s_ry, s_ryO, s_dn, s_tl, s_tn, s_ap, s_an, s_ci, s_cr, s_ni, s_n0, s_n1, q_ags, q_cat, List.contains_nil, List.contains_cons, Nat.reduceBEq, Bool.or_false, Bool.false_or, Bool.true_or, Bool.false_eq_true, ↓reduceIte, Nat.le_refl, Nat.zero_le, true_and, and_true, Nat.reduceLeDiff, Nat.reduceAdd, Nat.add_zero, Nat.zero_add, List.length_cons, List.length_nil, List.set_cons_zero, List.set_cons_succ, Nat.reduceLT, s_fi, s_fl, s_fo, s_fa, s_f0, s_f1, s_set, s_ss, lg_cmp_ge, lg_cmp_le, lg_cmp_gt, lg_cmp_lt, lg_cmp_eq, s_brT, s_brF, s_10, w_Mo_readGlyph, r_Mo_readGlyph, l_Mo_readGlyph_0, l_Mo_readGlyph_18, l_Mo_readGlyph_54, l_Mo_readGlyph_55, l_Mo_readGlyph_74, l_Mo_readGlyph_77, l_Mo_readGlyph_92, kc_0, f_8_247, ty_8_30, kc_m1, f_8_250, ty_8_31, ml_8_253, w_Mo_begin, f_8_105, f_8_59, ml_8_257, w_Mo_readPart, kc_5, kc_1, ml_8_109, w_Mo_need, ml_8_260, w_Mo_join, Mh_y, Mh_1, Mh_s1, Mh_2, Mh_s2, Mh_3, Mh_s3, Mh_4, Mh_s4, Mh_5, Mh_s5, Mh_6, Mh_s6, Mh_7, Mh_s7, Mh_8, Mh_s8, Mh_9, Mh_s9, Mh_10, Mh_s10, Mh_11, Mh_s11, Mh_12, Mh_s12, Mh_13, Mh_s13, Mh_14, Mh_s14, Mh_15, Mh_s15, Mh_16, Mh_s16, Mh_17, Mh_s17, Mh_18, Mh_s18, Mh_19, Mh_s19, Mh_20, Mh_s20, Mh_21, Mh_s21, Mh_22, Mh_s22, Mh_23, Mh_s23, Mh_24, Mh_s24, Mh_p]
    exact q_wk hz ⟨rfl, rfl, trivial⟩
  · rw [l0 rfl]
    obtain ⟨g17, e17⟩ := E' 17 (by omega) (by omega)
    have e17 : h' (y + 17) = some (.inl (3, 6, .inl g17)) := e17
    have v17 : g17 0 = 0 := (ar_e e17).symm.trans m'
    have fin : q_Z G l M_Mo_readGlyph (dd + 7) 0 0 Q 18 [some (.ref y), none, some (.int (-1)), none] [] (Mh h' y fa si fo wi of_ (bI false) (nI c') (lz (LG F sz g))) n 0 0 := by
      refine q_at o_Mo_readGlyph [18, 55, 77] 20 l_Mo_readGlyph_18 ?_
      simp -implicitDefEqProofs only [s_go, s_nil, s_cons, q_ins, s_op, s_i, s_j, s_a, s_v, s_li, s_lj, s_la, s_liO, s_ljO, s_laO, q_get, q_p1, q_p2, s_n2i, s_n2r, s_n2l, s_n2n, q_pad, q_ar, s_ob, s_obO, q_nth, s_ri, s_riO, s_rb, s_rbO, s_rzO, s_rl, s_rlO, s_rq, s_rqO, s_ry, s_ryO, s_dn, s_tl, s_tn, s_ap, s_an, s_ci, s_cr, s_ni, s_n0, s_n1, q_ags, q_cat, List.contains_nil, List.contains_cons, Nat.reduceBEq, Bool.or_false, Bool.false_or, Bool.true_or, Bool.false_eq_true, ↓reduceIte, Nat.le_refl, Nat.zero_le, true_and, and_true, Nat.reduceLeDiff, Nat.reduceAdd, Nat.add_zero, Nat.zero_add, List.length_cons, List.length_nil, List.set_cons_zero, List.set_cons_succ, Nat.reduceLT, s_fi, s_fl, s_fo, s_fa, s_f0, s_f1, s_set, s_ss, lg_cmp_ge, lg_cmp_le, lg_cmp_gt, lg_cmp_lt, lg_cmp_eq, s_brT, s_brF, s_10, w_Mo_readGlyph, r_Mo_readGlyph, l_Mo_readGlyph_0, l_Mo_readGlyph_18, l_Mo_readGlyph_54, l_Mo_readGlyph_55, l_Mo_readGlyph_74, l_Mo_readGlyph_77, l_Mo_readGlyph_92, kc_0, f_8_247, ty_8_30, kc_m1, f_8_250, ty_8_31, ml_8_253, w_Mo_begin, f_8_105, f_8_59, ml_8_257, w_Mo_readPart, kc_5, kc_1, ml_8_109, w_Mo_need, ml_8_260, w_Mo_join, Mh_y, Mh_1, Mh_s1, Mh_2, Mh_s2, Mh_3, Mh_s3, Mh_4, Mh_s4, Mh_5, Mh_s5, Mh_6, Mh_s6, Mh_7, Mh_s7, Mh_8, Mh_s8, Mh_9, Mh_s9, Mh_10, Mh_s10, Mh_11, Mh_s11, Mh_12, Mh_s12, Mh_13, Mh_s13, Mh_14, Mh_s14, Mh_15, Mh_s15, Mh_16, Mh_s16, Mh_17, Mh_s17, Mh_18, Mh_s18, Mh_19, Mh_s19, Mh_20, Mh_s20, Mh_21, Mh_s21, Mh_22, Mh_s22, Mh_23, Mh_s23, Mh_24, Mh_s24, Mh_p, show ((-1 : Int32) < 0) = True from eq_true (by decide)]
      exact q1 L rg c' wg hrd h' E' K' P'
    refine q_at o_Mo_readGlyph [18, 55] 20 l_Mo_readGlyph_18 ?_
    simp -implicitDefEqProofs only [s_go, s_nil, s_cons, q_ins, s_op, s_i, s_j, s_a, s_v, s_li, s_lj, s_la, s_liO, s_ljO, s_laO, q_get, q_p1, q_p2, s_n2i, s_n2r, s_n2l, s_n2n, q_pad, q_ar, s_ob, s_obO, q_nth, s_ri, s_riO, s_rb, s_rbO, s_rzO, s_rl, s_rlO, s_rq, s_rqO, s_ry, s_ryO, s_dn, s_tl, s_tn, s_ap, s_an, s_ci, s_cr, s_ni, s_n0, s_n1, q_ags, q_cat, List.contains_nil, List.contains_cons, Nat.reduceBEq, Bool.or_false, Bool.false_or, Bool.true_or, Bool.false_eq_true, ↓reduceIte, Nat.le_refl, Nat.zero_le, true_and, and_true, Nat.reduceLeDiff, Nat.reduceAdd, Nat.add_zero, Nat.zero_add, List.length_cons, List.length_nil, List.set_cons_zero, List.set_cons_succ, Nat.reduceLT, s_fi, s_fl, s_fo, s_fa, s_f0, s_f1, s_set, s_ss, lg_cmp_ge, lg_cmp_le, lg_cmp_gt, lg_cmp_lt, lg_cmp_eq, s_brT, s_brF, s_10, w_Mo_readGlyph, r_Mo_readGlyph, l_Mo_readGlyph_0, l_Mo_readGlyph_18, l_Mo_readGlyph_54, l_Mo_readGlyph_55, l_Mo_readGlyph_74, l_Mo_readGlyph_77, l_Mo_readGlyph_92, kc_0, f_8_247, ty_8_30, kc_m1, f_8_250, ty_8_31, ml_8_253, w_Mo_begin, f_8_105, f_8_59, ml_8_257, w_Mo_readPart, kc_5, kc_1, ml_8_109, w_Mo_need, ml_8_260, w_Mo_join, Mh_y, Mh_1, Mh_s1, Mh_2, Mh_s2, Mh_3, Mh_s3, Mh_4, Mh_s4, Mh_5, Mh_s5, Mh_6, Mh_s6, Mh_7, Mh_s7, Mh_8, Mh_s8, Mh_9, Mh_s9, Mh_10, Mh_s10, Mh_11, Mh_s11, Mh_12, Mh_s12, Mh_13, Mh_s13, Mh_14, Mh_s14, Mh_15, Mh_s15, Mh_16, Mh_s16, Mh_17, Mh_s17, Mh_18, Mh_s18, Mh_19, Mh_s19, Mh_20, Mh_s20, Mh_21, Mh_s21, Mh_22, Mh_s22, Mh_23, Mh_s23, Mh_24, Mh_s24, Mh_p, show (nI 0 < 0) = False from eq_false (by decide), show nI 0 + (-1) = -1 from rfl, show ((-1 : Int32) < 0) = True from eq_true (by decide), bI_0, eq_self, e17, v17, nI_clamp (show 0 < 2 ^ 31 by omega)]
    exact ⟨vp_in_nI (by omega) (by omega), fin⟩
set_option maxRecDepth 100000 in
set_option maxHeartbeats 4000000 in
theorem z_Mo_checkGlyphs {G : q_G} {l : Launch} {dd y n sz : Nat} {fa si fo wi of_ : Int32} {F : Nat → Nat} {h0 : q_H} {Q : q_P} (hf : FORM_ok F sz) (hN : f_N F sz ≤ 256)
    (q1 : ALL_ok F sz → ∀ h' pr' le', MoE h' y → KD h0 h' y 0 → Q none (Mh h' y fa si fo wi of_ (bI false) pr' le') n)
    (q0 : ¬ ALL_ok F sz → ∀ h' pr' le', MoE h' y → KD h0 h' y 0 → Q none (Mh h' y fa si fo wi of_ (bI true) pr' le') n) :
    ∀ (r g : Nat) (h : q_H) (pr le : Int32), g + r = f_N F sz → (∀ k, k < g → RD F sz 6 k 0 ≠ none) → MoE h y → MoR h y of_ F sz → KD h0 h y 0 → q_Z G l M_Mo_checkGlyphs (dd + 8) 0 0 Q 7 [some (.ref y), some (.int (nI (f_N F sz))), some (.int (nI g))] [] (Mh h y fa si fo wi of_ (bI false) pr le) n 0 0 := by
  intro r
  induction r with
  | zero =>
    intro g h pr le hg ha E R K
    have e : g = f_N F sz := by omega
    subst e
    refine q_at o_Mo_checkGlyphs [7] 20 l_Mo_checkGlyphs_7 ?_
    simp -implicitDefEqProofs only [s_go, s_nil, s_cons, q_ins, s_op, s_i, s_j, s_a, s_v, s_li, s_lj, s_la, s_liO, s_ljO, s_laO, q_get, q_p1, q_p2, s_n2i, s_n2r, s_n2l, s_n2n, q_pad, q_ar, s_ob, s_obO, q_nth, s_ri, s_riO, s_rb, s_rbO, s_rzO, s_rl, s_rlO, s_rq, s_rqO, s_ry, s_ryO, s_dn, s_tl, s_tn, s_ap, s_an, s_ci, s_cr, s_ni, s_n0, s_n1, q_ags, q_cat, List.contains_nil, List.contains_cons, Nat.reduceBEq, Bool.or_false, Bool.false_or, Bool.true_or, Bool.false_eq_true, ↓reduceIte, Nat.le_refl, Nat.zero_le, true_and, and_true, Nat.reduceLeDiff, Nat.reduceAdd, Nat.add_zero, Nat.zero_add, List.length_cons, List.length_nil, List.set_cons_zero, List.set_cons_succ, Nat.reduceLT, s_fi, s_fl, s_fo, s_fa, s_f0, s_f1, s_set, s_ss, lg_cmp_ge, lg_cmp_le, lg_cmp_gt, lg_cmp_lt, lg_cmp_eq, s_brT, s_brF, s_10, w_Mo_checkGlyphs, r_Mo_checkGlyphs, l_Mo_checkGlyphs_0, l_Mo_checkGlyphs_7, l_Mo_checkGlyphs_30, ml_8_175, w_Mo_glyphCount, kc_0, f_8_105, ml_8_212, w_Mo_readGlyph, kc_1, Mh_y, Mh_1, Mh_s1, Mh_2, Mh_s2, Mh_3, Mh_s3, Mh_4, Mh_s4, Mh_5, Mh_s5, Mh_6, Mh_s6, Mh_7, Mh_s7, Mh_8, Mh_s8, Mh_9, Mh_s9, Mh_10, Mh_s10, Mh_11, Mh_s11, Mh_12, Mh_s12, Mh_13, Mh_s13, Mh_14, Mh_s14, Mh_15, Mh_s15, Mh_16, Mh_s16, Mh_17, Mh_s17, Mh_18, Mh_s18, Mh_19, Mh_s19, Mh_20, Mh_s20, Mh_21, Mh_s21, Mh_22, Mh_s22, Mh_23, Mh_s23, Mh_24, Mh_s24, Mh_p, show (nI (f_N F sz) ≤ nI (f_N F sz)) = True from eq_true (nI_le (by omega) (by omega))]
    exact q1 ha h pr le E K
  | succ r ih =>
    intro g h pr le hg ha E R K
    refine q_at o_Mo_checkGlyphs [7] 20 l_Mo_checkGlyphs_7 ?_
    simp -implicitDefEqProofs only [s_go, s_nil, s_cons, q_ins, s_op, s_i, s_j, s_a, s_v, s_li, s_lj, s_la, s_liO, s_ljO, s_laO, q_get, q_p1, q_p2, s_n2i, s_n2r, s_n2l, s_n2n, q_pad, q_ar, s_ob, s_obO, q_nth, s_ri, s_riO, s_rb, s_rbO, s_rzO, s_rl, s_rlO, s_rq, s_rqO, s_ry, s_ryO, s_dn, s_tl, s_tn, s_ap, s_an, s_ci, s_cr, s_ni, s_n0, s_n1, q_ags, q_cat, List.contains_nil, List.contains_cons, Nat.reduceBEq, Bool.or_false, Bool.false_or, Bool.true_or, Bool.false_eq_true, ↓reduceIte, Nat.le_refl, Nat.zero_le, true_and, and_true, Nat.reduceLeDiff, Nat.reduceAdd, Nat.add_zero, Nat.zero_add, List.length_cons, List.length_nil, List.set_cons_zero, List.set_cons_succ, Nat.reduceLT, s_fi, s_fl, s_fo, s_fa, s_f0, s_f1, s_set, s_ss, lg_cmp_ge, lg_cmp_le, lg_cmp_gt, lg_cmp_lt, lg_cmp_eq, s_brT, s_brF, s_10, w_Mo_checkGlyphs, r_Mo_checkGlyphs, l_Mo_checkGlyphs_0, l_Mo_checkGlyphs_7, l_Mo_checkGlyphs_30, ml_8_175, w_Mo_glyphCount, kc_0, f_8_105, ml_8_212, w_Mo_readGlyph, kc_1, Mh_y, Mh_1, Mh_s1, Mh_2, Mh_s2, Mh_3, Mh_s3, Mh_4, Mh_s4, Mh_5, Mh_s5, Mh_6, Mh_s6, Mh_7, Mh_s7, Mh_8, Mh_s8, Mh_9, Mh_s9, Mh_10, Mh_s10, Mh_11, Mh_s11, Mh_12, Mh_s12, Mh_13, Mh_s13, Mh_14, Mh_s14, Mh_15, Mh_s15, Mh_16, Mh_s16, Mh_17, Mh_s17, Mh_18, Mh_s18, Mh_19, Mh_s19, Mh_20, Mh_s20, Mh_21, Mh_s21, Mh_22, Mh_s22, Mh_23, Mh_s23, Mh_24, Mh_s24, Mh_p, show (nI (f_N F sz) ≤ nI g) = False from eq_false (fun c => absurd ((nI_leI (by omega) (by omega)).mp c) (by omega)), bI_0, eq_self]
    refine q_c0 (Nat.le_refl _) (Nat.le_refl _) ?_
    refine c_Mo_readGlyph hf (by omega) E R (fun L rg c' wg hrd h' E' K' P' => ?_) (fun hrd h' pr' le' E' K' => ?_)
    · simp -implicitDefEqProofs only [s_go, s_nil, s_cons, q_ins, s_op, s_i, s_j, s_a, s_v, s_li, s_lj, s_la, s_liO, s_ljO, s_laO, q_get, q_p1, q_p2, s_n2i, s_n2r, s_n2l, s_n2n, q_pad, q_ar, s_ob, s_obO, q_nth, s_ri, s_riO, s_rb, s_rbO, s_rzO, s_rl, s_rlO, s_rq, s_rqO, s_ry, s_ryO, s_dn, s_tl, s_tn, s_ap, s_an, s_ci, s_cr, s_ni, s_n0, s_n1, q_ags, q_cat, List.contains_nil, List.contains_cons, Nat.reduceBEq, Bool.or_false, Bool.false_or, Bool.true_or, Bool.false_eq_true, ↓reduceIte, Nat.le_refl, Nat.zero_le, true_and, and_true, Nat.reduceLeDiff, Nat.reduceAdd, Nat.add_zero, Nat.zero_add, List.length_cons, List.length_nil, List.set_cons_zero, List.set_cons_succ, Nat.reduceLT, s_fi, s_fl, s_fo, s_fa, s_f0, s_f1, s_set, s_ss, lg_cmp_ge, lg_cmp_le, lg_cmp_gt, lg_cmp_lt, lg_cmp_eq, s_brT, s_brF, s_10, w_Mo_checkGlyphs, r_Mo_checkGlyphs, l_Mo_checkGlyphs_0, l_Mo_checkGlyphs_7, l_Mo_checkGlyphs_30, ml_8_175, w_Mo_glyphCount, kc_0, f_8_105, ml_8_212, w_Mo_readGlyph, kc_1, Mh_y, Mh_1, Mh_s1, Mh_2, Mh_s2, Mh_3, Mh_s3, Mh_4, Mh_s4, Mh_5, Mh_s5, Mh_6, Mh_s6, Mh_7, Mh_s7, Mh_8, Mh_s8, Mh_9, Mh_s9, Mh_10, Mh_s10, Mh_11, Mh_s11, Mh_12, Mh_s12, Mh_13, Mh_s13, Mh_14, Mh_s14, Mh_15, Mh_s15, Mh_16, Mh_s16, Mh_17, Mh_s17, Mh_18, Mh_s18, Mh_19, Mh_s19, Mh_20, Mh_s20, Mh_21, Mh_s21, Mh_22, Mh_s22, Mh_23, Mh_s23, Mh_24, Mh_s24, Mh_p, nI_1]
      refine ih (g + 1) h' _ _ (by omega) (fun k hk => ?_) E' (R.kd K') (K.tr K')
      rcases Nat.lt_or_ge k g with z | z
      · exact ha k z
      · rw [show k = g by omega, hrd]
        exact fun z => by cases z
    · have fin := q0 (fun z => z g (by omega) hrd) h' pr' le' E' (K.tr K')
      simp -implicitDefEqProofs only [s_go, s_nil, s_cons, q_ins, s_op, s_i, s_j, s_a, s_v, s_li, s_lj, s_la, s_liO, s_ljO, s_laO, q_get, q_p1, q_p2, s_n2i, s_n2r, s_n2l, s_n2n, q_pad, q_ar, s_ob, s_obO, q_nth, s_ri, s_riO, s_rb, s_rbO, s_rzO, s_rl, s_rlO, s_rq, s_rqO, s_ry, s_ryO, s_dn, s_tl, s_tn, s_ap, s_an, s_ci, s_cr, s_ni, s_n0, s_n1, q_ags, q_cat, List.contains_nil, List.contains_cons, Nat.reduceBEq, Bool.or_false, Bool.false_or, Bool.true_or, Bool.false_eq_true, ↓reduceIte, Nat.le_refl, Nat.zero_le, true_and, and_true, Nat.reduceLeDiff, Nat.reduceAdd, Nat.add_zero, Nat.zero_add, List.length_cons, List.length_nil, List.set_cons_zero, List.set_cons_succ, Nat.reduceLT, s_fi, s_fl, s_fo, s_fa, s_f0, s_f1, s_set, s_ss, lg_cmp_ge, lg_cmp_le, lg_cmp_gt, lg_cmp_lt, lg_cmp_eq, s_brT, s_brF, s_10, w_Mo_checkGlyphs, r_Mo_checkGlyphs, l_Mo_checkGlyphs_0, l_Mo_checkGlyphs_7, l_Mo_checkGlyphs_30, ml_8_175, w_Mo_glyphCount, kc_0, f_8_105, ml_8_212, w_Mo_readGlyph, kc_1, Mh_y, Mh_1, Mh_s1, Mh_2, Mh_s2, Mh_3, Mh_s3, Mh_4, Mh_s4, Mh_5, Mh_s5, Mh_6, Mh_s6, Mh_7, Mh_s7, Mh_8, Mh_s8, Mh_9, Mh_s9, Mh_10, Mh_s10, Mh_11, Mh_s11, Mh_12, Mh_s12, Mh_13, Mh_s13, Mh_14, Mh_s14, Mh_15, Mh_s15, Mh_16, Mh_s16, Mh_17, Mh_s17, Mh_18, Mh_s18, Mh_19, Mh_s19, Mh_20, Mh_s20, Mh_21, Mh_s21, Mh_22, Mh_s22, Mh_23, Mh_s23, Mh_24, Mh_s24, Mh_p, nI_1]
      refine q_at o_Mo_checkGlyphs [7] 20 l_Mo_checkGlyphs_7 ?_
      simp -implicitDefEqProofs only [s_go, s_nil, s_cons, q_ins, s_op, s_i, s_j, s_a, s_v, s_li, s_lj, s_la, s_liO, s_ljO, s_laO, q_get, q_p1, q_p2, s_n2i, s_n2r, s_n2l, s_n2n, q_pad, q_ar, s_ob, s_obO, q_nth, s_ri, s_riO, s_rb, s_rbO, s_rzO, s_rl, s_rlO, s_rq, s_rqO, s_ry, s_ryO, s_dn, s_tl, s_tn, s_ap, s_an, s_ci, s_cr, s_ni, s_n0, s_n1, q_ags, q_cat, List.contains_nil, List.contains_cons, Nat.reduceBEq, Bool.or_false, Bool.false_or, Bool.true_or, Bool.false_eq_true, ↓reduceIte, Nat.le_refl, Nat.zero_le, true_and, and_true, Nat.reduceLeDiff, Nat.reduceAdd, Nat.add_zero, Nat.zero_add, List.length_cons, List.length_nil, List.set_cons_zero, List.set_cons_succ, Nat.reduceLT, s_fi, s_fl, s_fo, s_fa, s_f0, s_f1, s_set, s_ss, lg_cmp_ge, lg_cmp_le, lg_cmp_gt, lg_cmp_lt, lg_cmp_eq, s_brT, s_brF, s_10, w_Mo_checkGlyphs, r_Mo_checkGlyphs, l_Mo_checkGlyphs_0, l_Mo_checkGlyphs_7, l_Mo_checkGlyphs_30, ml_8_175, w_Mo_glyphCount, kc_0, f_8_105, ml_8_212, w_Mo_readGlyph, kc_1, Mh_y, Mh_1, Mh_s1, Mh_2, Mh_s2, Mh_3, Mh_s3, Mh_4, Mh_s4, Mh_5, Mh_s5, Mh_6, Mh_s6, Mh_7, Mh_s7, Mh_8, Mh_s8, Mh_9, Mh_s9, Mh_10, Mh_s10, Mh_11, Mh_s11, Mh_12, Mh_s12, Mh_13, Mh_s13, Mh_14, Mh_s14, Mh_15, Mh_s15, Mh_16, Mh_s16, Mh_17, Mh_s17, Mh_18, Mh_s18, Mh_19, Mh_s19, Mh_20, Mh_s20, Mh_21, Mh_s21, Mh_22, Mh_s22, Mh_23, Mh_s23, Mh_24, Mh_s24, Mh_p, bI_0, reduceCtorEq]
      exact ⟨fun _ => fin, fun _ => fin⟩
set_option maxRecDepth 100000 in
set_option maxHeartbeats 4000000 in
theorem c_Mo_checkGlyphs {G : q_G} {l : Launch} {dd y n sz : Nat} {fa si fo wi of_ pr le : Int32} {F : Nat → Nat} {h : q_H} {Q : q_P} (hf : FORM_ok F sz) (E : MoE h y) (R : MoR h y of_ F sz)
    (q1 : ALL_ok F sz → ∀ h' pr' le', MoE h' y → KD h h' y 0 → Q none (Mh h' y fa si fo wi of_ (bI false) pr' le') n)
    (q0 : ¬ ALL_ok F sz → ∀ h' pr' le', MoE h' y → KD h h' y 0 → Q none (Mh h' y fa si fo wi of_ (bI true) pr' le') n) : q_Call G l M_Mo_checkGlyphs (dd + 8) 0 0 [.ref y] (Mh h y fa si fo wi of_ (bI false) pr le) n Q := by
  refine q_in u_Mo_checkGlyphs (by rw [L_Mo_checkGlyphs]; exact Nat.le_of_ble_eq_true rfl) ?_
  rw [L_Mo_checkGlyphs]
  refine q_at o_Mo_checkGlyphs [7] 20 l_Mo_checkGlyphs_0 ?_
  simp -implicitDefEqProofs only [s_go, s_nil, s_cons, q_ins, s_op, s_i, s_j, s_a, s_v, s_li, s_lj, s_la, s_liO, s_ljO, s_laO, q_get, q_p1, q_p2, s_n2i, s_n2r, s_n2l, s_n2n, q_pad, q_ar, s_ob, s_obO, q_nth, s_ri, s_riO, s_rb, s_rbO, s_rzO, s_rl, s_rlO, s_rq, s_rqO, s_ry, s_ryO, s_dn, s_tl, s_tn, s_ap, s_an, s_ci, s_cr, s_ni, s_n0, s_n1, q_ags, q_cat, List.contains_nil, List.contains_cons, Nat.reduceBEq, Bool.or_false, Bool.false_or, Bool.true_or, Bool.false_eq_true, ↓reduceIte, Nat.le_refl, Nat.zero_le, true_and, and_true, Nat.reduceLeDiff, Nat.reduceAdd, Nat.add_zero, Nat.zero_add, List.length_cons, List.length_nil, List.set_cons_zero, List.set_cons_succ, Nat.reduceLT, s_fi, s_fl, s_fo, s_fa, s_f0, s_f1, s_set, s_ss, lg_cmp_ge, lg_cmp_le, lg_cmp_gt, lg_cmp_lt, lg_cmp_eq, s_brT, s_brF, s_10, w_Mo_checkGlyphs, r_Mo_checkGlyphs, l_Mo_checkGlyphs_0, l_Mo_checkGlyphs_7, l_Mo_checkGlyphs_30, ml_8_175, w_Mo_glyphCount, kc_0, f_8_105, ml_8_212, w_Mo_readGlyph, kc_1, Mh_y, Mh_1, Mh_s1, Mh_2, Mh_s2, Mh_3, Mh_s3, Mh_4, Mh_s4, Mh_5, Mh_s5, Mh_6, Mh_s6, Mh_7, Mh_s7, Mh_8, Mh_s8, Mh_9, Mh_s9, Mh_10, Mh_s10, Mh_11, Mh_s11, Mh_12, Mh_s12, Mh_13, Mh_s13, Mh_14, Mh_s14, Mh_15, Mh_s15, Mh_16, Mh_s16, Mh_17, Mh_s17, Mh_18, Mh_s18, Mh_19, Mh_s19, Mh_20, Mh_s20, Mh_21, Mh_s21, Mh_22, Mh_s22, Mh_23, Mh_s23, Mh_24, Mh_s24, Mh_p]
  refine q_c0 (Nat.le_refl _) (Nat.le_refl _) ?_
  refine c_Mo_glyphCount (d := dd + 3) R ?_
  rw [b_df _ (by have : 6 ≤ (t_mx F sz).2 := hf.1.1.2.1; omega)]
  simp -implicitDefEqProofs only [s_go, s_nil, s_cons, q_ins, s_op, s_i, s_j, s_a, s_v, s_li, s_lj, s_la, s_liO, s_ljO, s_laO, q_get, q_p1, q_p2, s_n2i, s_n2r, s_n2l, s_n2n, q_pad, q_ar, s_ob, s_obO, q_nth, s_ri, s_riO, s_rb, s_rbO, s_rzO, s_rl, s_rlO, s_rq, s_rqO, s_ry, s_ryO, s_dn, s_tl, s_tn, s_ap, s_an, s_ci, s_cr, s_ni, s_n0, s_n1, q_ags, q_cat, List.contains_nil, List.contains_cons, Nat.reduceBEq, Bool.or_false, Bool.false_or, Bool.true_or, Bool.false_eq_true, ↓reduceIte, Nat.le_refl, Nat.zero_le, true_and, and_true, Nat.reduceLeDiff, Nat.reduceAdd, Nat.add_zero, Nat.zero_add, List.length_cons, List.length_nil, List.set_cons_zero, List.set_cons_succ, Nat.reduceLT, s_fi, s_fl, s_fo, s_fa, s_f0, s_f1, s_set, s_ss, lg_cmp_ge, lg_cmp_le, lg_cmp_gt, lg_cmp_lt, lg_cmp_eq, s_brT, s_brF, s_10, w_Mo_checkGlyphs, r_Mo_checkGlyphs, l_Mo_checkGlyphs_0, l_Mo_checkGlyphs_7, l_Mo_checkGlyphs_30, ml_8_175, w_Mo_glyphCount, kc_0, f_8_105, ml_8_212, w_Mo_readGlyph, kc_1, Mh_y, Mh_1, Mh_s1, Mh_2, Mh_s2, Mh_3, Mh_s3, Mh_4, Mh_s4, Mh_5, Mh_s5, Mh_6, Mh_s6, Mh_7, Mh_s7, Mh_8, Mh_s8, Mh_9, Mh_s9, Mh_10, Mh_s10, Mh_11, Mh_s11, Mh_12, Mh_s12, Mh_13, Mh_s13, Mh_14, Mh_s14, Mh_15, Mh_s15, Mh_16, Mh_s16, Mh_17, Mh_s17, Mh_18, Mh_s18, Mh_19, Mh_s19, Mh_20, Mh_s20, Mh_21, Mh_s21, Mh_22, Mh_s22, Mh_23, Mh_s23, Mh_24, Mh_s24, Mh_p]
  exact z_Mo_checkGlyphs hf hf.1.2.2.2.2.2.1 q1 q0 (f_N F sz) 0 h pr le (by omega) (fun k hk => absurd hk (by omega)) E R (KD.rf h y 0)
