/-! Outline.addsGlyph: at the deepest, and above it -/
theorem nI_inj {a b : Nat} (ha : a < 2 ^ 31) (hb : b < 2 ^ 31) : nI a = nI b ↔ a = b := by
  constructor
  · intro h
    have h1 := (nI_leI ha hb).mp (h ▸ Int32.le_refl _)
    have h2 := (nI_leI hb ha).mp (h ▸ Int32.le_refl _)
    omega
  · intro h
    rw [h]
theorem OuR.cu {h h' : q_H} {u f p e : Nat} {ro : Int32} (k : OuR h u) (t : ∀ b, u + 6 ≤ b → b ≤ u + 18 → h' b = h b) (c : q_Cu h' (u + 5) f p e ro) : OuR h' u := by
  obtain ⟨⟨fn, k1, k2⟩, -, k4⟩ := k
  refine ⟨⟨fn, (t _ (by omega) (by omega)).trans k1, k2⟩, ⟨f, p, e, ro, c⟩, fun j hj => ?_⟩
  obtain ⟨⟨a1, a2, a3, a4, a5, a6, a7, a8, y1⟩, f, p, e1, ro, y2⟩ := k4 j hj
  exact ⟨⟨a1, a2, a3, a4, a5, a6, a7, a8, (t _ (by omega) (by omega)).trans y1⟩, f, p, e1, ro, (t _ (by omega) (by omega)).trans y2⟩
theorem q_k1 {w : Nat} (h : w < 65536) : iI (S16 w) = -1 ↔ w = 65535 := by
  have b := S16_sm h
  rw [← Int32.toInt_inj, iI_toInt (by have := b.1; omega) (by have := b.2; omega), show (-1 : Int32).toInt = -1 from rfl]
  unfold S16
  split <;> omega
theorem q_k2 {w : Nat} (h : w < 65536) : iI (S16 w) < 0 ↔ 32767 < w := by
  have b := S16_sm h
  rw [Int32.lt_iff_toInt_lt, iI_toInt (by have := b.1; omega) (by have := b.2; omega), show (0 : Int32).toInt = 0 from rfl]
  unfold S16
  split <;> omega
theorem q_k3 {w : Nat} (h : w < 65536) : 32 < iI (S16 w) ↔ 32 < w ∧ w ≤ 32767 := by
  have b := S16_sm h
  rw [Int32.lt_iff_toInt_lt, iI_toInt (by have := b.1; omega) (by have := b.2; omega), show (32 : Int32).toInt = 32 from rfl]
  unfold S16
  split <;> omega
theorem SIMP_at {F : Nat → Nat} {e p0 C a f px py : Nat} {v : Int} (h1 : FS F e (s_pf F p0 C) (CB F p0 C) = some (a, f, px)) (h2 : AS F e (FL F e (s_pf F p0 C)) 1 4 px (CB F p0 C) = some (v, py)) {j : Nat} (hj : j < CB F p0 C) : At (SIMP F e p0 C) j = (AX F e (FL F e (s_pf F p0 C)) 1 4 px j, AX F e (FL F e (s_pf F p0 C)) 2 5 py j, FL F e (s_pf F p0 C) j, RI F p0 C j) := by
  unfold SIMP
  rw [h1]
  dsimp only
  rw [h2]
  dsimp only
  rw [At_g hj]
set_option maxRecDepth 100000 in
set_option maxHeartbeats 4000000 in
theorem AG_0 {G : q_G} {l : Launch} {F : Nat → Nat} {sz o row m : Nat} {g : Nat → Int32} {u : Nat} : AGs G l F sz o row m g u 0 := by
  intro d dp gg c tot cts n wg g1 g2 g3 g4 h Q hd hgg hc htot hct hK hB O1 A1 R1 q1 q0
  have hd : dp = 6 := by omega
  subst hd
  have K0' := hK.1
  unfold e_Fo at K0'
  refine q_in u_Ou_addsGlyph (by rw [L_Ou_addsGlyph]; exact Nat.le_of_ble_eq_true rfl) ?_
  rw [L_Ou_addsGlyph]
  refine q_at o_Ou_addsGlyph [16] 20 l_Ou_addsGlyph_0 ?_
  simp -implicitDefEqProofs only [s_go, s_nil, s_cons, q_ins, s_op, s_i, s_j, s_a, s_v, s_li, s_lj, s_la, s_liO, s_ljO, s_laO, q_get, q_p1, q_p2, s_n2i, s_n2r, s_n2l, s_n2n, q_pad, q_ar, s_ob, s_obO, q_nth, s_ri, s_riO, s_rb, s_rbO, s_rzO, s_rl, s_rlO, s_rq, s_rqO, s_ry, s_ryO, s_dn, s_tl, s_tn, s_ap, s_an, s_ci, s_cr, s_ni, s_n0, s_n1, q_ags, q_cat, List.contains_nil, List.contains_cons, Nat.reduceBEq, Bool.or_false, Bool.false_or, Bool.true_or, Bool.false_eq_true, ↓reduceIte, Nat.le_refl, Nat.zero_le, true_and, and_true, Nat.reduceLeDiff, Nat.reduceAdd, Nat.add_zero, Nat.zero_add, List.length_cons, List.length_nil, List.set_cons_zero, List.set_cons_succ, Nat.reduceLT, s_fi, s_fl, s_fo, s_fa, s_f0, s_f1, s_set, s_ss, lg_cmp_ge, lg_cmp_le, lg_cmp_gt, lg_cmp_lt, lg_cmp_eq, s_brT, s_brF, s_10, w_Ou_addsGlyph, r_Ou_addsGlyph, l_Ou_addsGlyph_0, l_Ou_addsGlyph_14, l_Ou_addsGlyph_16, l_Ou_addsGlyph_48, l_Ou_addsGlyph_94, l_Ou_addsGlyph_124, l_Ou_addsGlyph_149, l_Ou_addsGlyph_150, kb_6, f_4_40, kc_0, f_4_63, ty_4_9, ml_4_66, w_Fo_dataPlace, kc_1, f_4_29, f_4_70, ml_4_74, w_Cu_begin, ml_4_78, w_Cu_u16, kb_8, ml_4_82, w_Cu_pass, f_4_86, kc_m1, f_4_35, f_4_90, ml_4_91, w_Cu_follow, ml_4_95, w_Ou_addsParts, kb_32, ml_4_98, w_Ou_addsSimple, K0']
  exact ⟨fun _ => q0 (fun L rg c' w z => by cases z) h (fun _ _ => rfl) ⟨⟨_, _, _, _, O1⟩, A1.A, R1⟩, fun z => absurd (nI_le (a := 6) (Nat.le_refl _) (by omega)) z⟩
set_option maxRecDepth 100000 in
set_option maxHeartbeats 4000000 in
theorem AG_s {G : q_G} {l : Launch} {F : Nat → Nat} {sz o row m : Nat} {g : Nat → Int32} {u r : Nat} (hap : q_ap u o row) (hlo : (t_lo F sz).1 + (t_lo F sz).2 ≤ sz) (hgl : (t_gl F sz).1 + (t_gl F sz).2 ≤ sz) (hN : f_N F sz < 65536) (hPL : PL_ok F (f_LP F sz = 1) (t_lo F sz).1 (t_lo F sz).2 (t_gl F sz).2 (f_N F sz)) (IH : AGs G l F sz o row m g u r) : AGs G l F sz o row m g u (r + 1) := by
  intro d dp gg c tot cts n wg g1 g2 g3 g4 h Q hd hgg hc htot hct hK hB O1 A1 R1 q1 q0
  obtain ⟨hap1, hap2⟩ := hap
  have hF := hB.2.2.2.2.2.2
  have hs : sz ≤ 16384 := Nat.le_trans hB.2.2.1 hB.2.2.2.1
  have K0 := hK.1
  have K0' := K0
  unfold e_Fo at K0'
  have O1' := O1
  unfold e_Ou at O1'
  have su : ∀ b, b ≠ u → q_set h u (e_Ou u (nI tot) (nI cts) (nI c) (nI gg)) b = h b := fun b hb => s_ne _ _ hb
  obtain ⟨h1, hh1⟩ : ∃ x, x = q_set h u (e_Ou u (nI tot) (nI cts) (nI c) (nI gg)) := ⟨_, rfl⟩
  rw [← hh1] at su
  have O2 : h1 u = some (e_Ou u (nI tot) (nI cts) (nI c) (nI gg)) := by rw [hh1]; exact s_set _ _ _
  unfold e_Ou at hh1
  have K1 : FoK h1 o F sz := hK.mv (fun b z1 z2 => su b (by omega))
  have B1 : q_By h1 (o + 1) row m g sz F := hB.mv (su _ (by omega)) (su _ (by omega))
  have G1 : OuG h1 u g1 g2 g3 g4 := A1.mv (fun b z1 z2 => su b (by omega))
  have R2 : OuR h1 u := R1.mv0 (fun b z1 z2 => su b (by omega))
  have f1 : q_fO h h1 u dp := fun b hb => su b (by omega)
  have K1' := K1.1
  unfold e_Fo at K1'
  have O2' := O2
  unfold e_Ou at O2'
  rw [show d + 2 * (r + 1) + 3 = d + 2 * r + 5 by omega]
  refine q_in u_Ou_addsGlyph (by rw [L_Ou_addsGlyph]; exact Nat.le_of_ble_eq_true rfl) ?_
  rw [L_Ou_addsGlyph]
  refine q_at o_Ou_addsGlyph [94] 20 l_Ou_addsGlyph_0 ?_
  simp -implicitDefEqProofs only [s_go, s_nil, s_cons, q_ins, s_op, s_i, s_j, s_a, s_v, s_li, s_lj, s_la, s_liO, s_ljO, s_laO, q_get, q_p1, q_p2, s_n2i, s_n2r, s_n2l, s_n2n, q_pad, q_ar, s_ob, s_obO, q_nth, s_ri, s_riO, s_rb, s_rbO, s_rzO, s_rl, s_rlO, s_rq, s_rqO, s_ry, s_ryO, s_dn, s_tl, s_tn, s_ap, s_an, s_ci, s_cr, s_ni, s_n0, s_n1, q_ags, q_cat, List.contains_nil, List.contains_cons, Nat.reduceBEq, Bool.or_false, Bool.false_or, Bool.true_or, Bool.false_eq_true, ↓reduceIte, Nat.le_refl, Nat.zero_le, true_and, and_true, Nat.reduceLeDiff, Nat.reduceAdd, Nat.add_zero, Nat.zero_add, List.length_cons, List.length_nil, List.set_cons_zero, List.set_cons_succ, Nat.reduceLT, s_fi, s_fl, s_fo, s_fa, s_f0, s_f1, s_set, s_ss, lg_cmp_ge, lg_cmp_le, lg_cmp_gt, lg_cmp_lt, lg_cmp_eq, s_brT, s_brF, s_10, w_Ou_addsGlyph, r_Ou_addsGlyph, l_Ou_addsGlyph_0, l_Ou_addsGlyph_14, l_Ou_addsGlyph_16, l_Ou_addsGlyph_48, l_Ou_addsGlyph_94, l_Ou_addsGlyph_124, l_Ou_addsGlyph_149, l_Ou_addsGlyph_150, kb_6, f_4_40, kc_0, f_4_63, ty_4_9, ml_4_66, w_Fo_dataPlace, kc_1, f_4_29, f_4_70, ml_4_74, w_Cu_begin, ml_4_78, w_Cu_u16, kb_8, ml_4_82, w_Cu_pass, f_4_86, kc_m1, f_4_35, f_4_90, ml_4_91, w_Cu_follow, ml_4_95, w_Ou_addsParts, kb_32, ml_4_98, w_Ou_addsSimple, K0', O1']
  refine ⟨fun z => absurd ((nI_leI (a := 6) (by omega) (by omega)).mp z) (by omega), fun _ => ⟨fun z => ?_, fun z => q0 (fun L rg c' w y => ?_) h (fun _ _ => rfl) ⟨⟨_, _, _, _, O1⟩, A1.A, R1⟩⟩⟩
  rotate_left
  · unfold RD at y
    rw [if_pos (Nat.le_of_not_lt (fun x => z ((nI_ltI (by omega) (by omega)).mpr x)))] at y
    cases y
  have hg : gg < f_N F sz := (nI_ltI (by omega) (by omega)).mp z
  have d1 : g_a F sz gg ≤ (t_gl F sz).2 := PL_le hPL (f_N F sz - gg) gg (by omega)
  have d2 : g_a F sz (gg + 1) ≤ (t_gl F sz).2 := PL_le hPL (f_N F sz - (gg + 1)) (gg + 1) (by omega)
  have d3 : g_a F sz gg ≤ g_a F sz (gg + 1) := hPL.2.1 gg hg
  rw [← hh1]
  simp -implicitDefEqProofs only [s_go, s_nil, s_cons, q_ins, s_op, s_i, s_j, s_a, s_v, s_li, s_lj, s_la, s_liO, s_ljO, s_laO, q_get, q_p1, q_p2, s_n2i, s_n2r, s_n2l, s_n2n, q_pad, q_ar, s_ob, s_obO, q_nth, s_ri, s_riO, s_rb, s_rbO, s_rzO, s_rl, s_rlO, s_rq, s_rqO, s_ry, s_ryO, s_dn, s_tl, s_tn, s_ap, s_an, s_ci, s_cr, s_ni, s_n0, s_n1, q_ags, q_cat, List.contains_nil, List.contains_cons, Nat.reduceBEq, Bool.or_false, Bool.false_or, Bool.true_or, Bool.false_eq_true, ↓reduceIte, Nat.le_refl, Nat.zero_le, true_and, and_true, Nat.reduceLeDiff, Nat.reduceAdd, Nat.add_zero, Nat.zero_add, List.length_cons, List.length_nil, List.set_cons_zero, List.set_cons_succ, Nat.reduceLT, s_fi, s_fl, s_fo, s_fa, s_f0, s_f1, s_set, s_ss, lg_cmp_ge, lg_cmp_le, lg_cmp_gt, lg_cmp_lt, lg_cmp_eq, s_brT, s_brF, s_10, w_Ou_addsGlyph, r_Ou_addsGlyph, l_Ou_addsGlyph_0, l_Ou_addsGlyph_14, l_Ou_addsGlyph_16, l_Ou_addsGlyph_48, l_Ou_addsGlyph_94, l_Ou_addsGlyph_124, l_Ou_addsGlyph_149, l_Ou_addsGlyph_150, kb_6, f_4_40, kc_0, f_4_63, ty_4_9, ml_4_66, w_Fo_dataPlace, kc_1, f_4_29, f_4_70, ml_4_74, w_Cu_begin, ml_4_78, w_Cu_u16, kb_8, ml_4_82, w_Cu_pass, f_4_86, kc_m1, f_4_35, f_4_90, ml_4_91, w_Cu_follow, ml_4_95, w_Ou_addsParts, kb_32, ml_4_98, w_Ou_addsSimple, K1']
  refine q_c0 (Nat.le_refl _) (Nat.le_refl _) ?_
  refine c_Fo_dataPlace (lg := f_LP F sz = 1) K1.1 B1 K1.2.2.2.2.2.2.2.1 hlo (by omega) ?_
  simp -implicitDefEqProofs only [s_go, s_nil, s_cons, q_ins, s_op, s_i, s_j, s_a, s_v, s_li, s_lj, s_la, s_liO, s_ljO, s_laO, q_get, q_p1, q_p2, s_n2i, s_n2r, s_n2l, s_n2n, q_pad, q_ar, s_ob, s_obO, q_nth, s_ri, s_riO, s_rb, s_rbO, s_rzO, s_rl, s_rlO, s_rq, s_rqO, s_ry, s_ryO, s_dn, s_tl, s_tn, s_ap, s_an, s_ci, s_cr, s_ni, s_n0, s_n1, q_ags, q_cat, List.contains_nil, List.contains_cons, Nat.reduceBEq, Bool.or_false, Bool.false_or, Bool.true_or, Bool.false_eq_true, ↓reduceIte, Nat.le_refl, Nat.zero_le, true_and, and_true, Nat.reduceLeDiff, Nat.reduceAdd, Nat.add_zero, Nat.zero_add, List.length_cons, List.length_nil, List.set_cons_zero, List.set_cons_succ, Nat.reduceLT, s_fi, s_fl, s_fo, s_fa, s_f0, s_f1, s_set, s_ss, lg_cmp_ge, lg_cmp_le, lg_cmp_gt, lg_cmp_lt, lg_cmp_eq, s_brT, s_brF, s_10, w_Ou_addsGlyph, r_Ou_addsGlyph, l_Ou_addsGlyph_0, l_Ou_addsGlyph_14, l_Ou_addsGlyph_16, l_Ou_addsGlyph_48, l_Ou_addsGlyph_94, l_Ou_addsGlyph_124, l_Ou_addsGlyph_149, l_Ou_addsGlyph_150, kb_6, f_4_40, kc_0, f_4_63, ty_4_9, ml_4_66, w_Fo_dataPlace, kc_1, f_4_29, f_4_70, ml_4_74, w_Cu_begin, ml_4_78, w_Cu_u16, kb_8, ml_4_82, w_Cu_pass, f_4_86, kc_m1, f_4_35, f_4_90, ml_4_91, w_Cu_follow, ml_4_95, w_Ou_addsParts, kb_32, ml_4_98, w_Ou_addsSimple, K1', lN_i, nI_add, nI_1]
  refine q_c0 (Nat.le_refl _) (Nat.le_refl _) ?_
  refine c_Fo_dataPlace (lg := f_LP F sz = 1) K1.1 B1 K1.2.2.2.2.2.2.2.1 hlo (by omega) ?_
  simp -implicitDefEqProofs only [s_go, s_nil, s_cons, q_ins, s_op, s_i, s_j, s_a, s_v, s_li, s_lj, s_la, s_liO, s_ljO, s_laO, q_get, q_p1, q_p2, s_n2i, s_n2r, s_n2l, s_n2n, q_pad, q_ar, s_ob, s_obO, q_nth, s_ri, s_riO, s_rb, s_rbO, s_rzO, s_rl, s_rlO, s_rq, s_rqO, s_ry, s_ryO, s_dn, s_tl, s_tn, s_ap, s_an, s_ci, s_cr, s_ni, s_n0, s_n1, q_ags, q_cat, List.contains_nil, List.contains_cons, Nat.reduceBEq, Bool.or_false, Bool.false_or, Bool.true_or, Bool.false_eq_true, ↓reduceIte, Nat.le_refl, Nat.zero_le, true_and, and_true, Nat.reduceLeDiff, Nat.reduceAdd, Nat.add_zero, Nat.zero_add, List.length_cons, List.length_nil, List.set_cons_zero, List.set_cons_succ, Nat.reduceLT, s_fi, s_fl, s_fo, s_fa, s_f0, s_f1, s_set, s_ss, lg_cmp_ge, lg_cmp_le, lg_cmp_gt, lg_cmp_lt, lg_cmp_eq, s_brT, s_brF, s_10, w_Ou_addsGlyph, r_Ou_addsGlyph, l_Ou_addsGlyph_0, l_Ou_addsGlyph_14, l_Ou_addsGlyph_16, l_Ou_addsGlyph_48, l_Ou_addsGlyph_94, l_Ou_addsGlyph_124, l_Ou_addsGlyph_149, l_Ou_addsGlyph_150, kb_6, f_4_40, kc_0, f_4_63, ty_4_9, ml_4_66, w_Fo_dataPlace, kc_1, f_4_29, f_4_70, ml_4_74, w_Cu_begin, ml_4_78, w_Cu_u16, kb_8, ml_4_82, w_Cu_pass, f_4_86, kc_m1, f_4_35, f_4_90, ml_4_91, w_Cu_follow, ml_4_95, w_Ou_addsParts, kb_32, ml_4_98, w_Ou_addsSimple, K1', O2', lN_i]
  have ga1 : DP F (f_LP F sz = 1) (t_lo F sz).1 (t_lo F sz).2 gg = g_a F sz gg := rfl
  have ga2 : DP F (f_LP F sz = 1) (t_lo F sz).1 (t_lo F sz).2 (gg + 1) = g_a F sz (gg + 1) := rfl
  rw [ga1, ga2, nI_inj (by omega) (by omega)]
  refine ⟨fun z => ?_, fun hne => ?_⟩
  · refine q1 [] 0 c gg ?_ htot h1 g1 g2 g3 g4 f1 O2 G1 R2 (fun j hj => absurd hj (Nat.not_lt_zero _)) (fun j _ => ⟨rfl, rfl, rfl, rfl⟩)
    unfold RD
    rw [if_neg (by omega), if_pos z]
  have R2' := R2
  obtain ⟨⟨fn, fn1, fn2⟩, ⟨f0, p0, e0, ro0, C0⟩, R3⟩ := R2'
  have C0' := C0
  unfold q_Cu at C0'
  have noR : G_a F sz (gg + 1) < G_a F sz gg + 10 → ∀ h', q_fO h h' u dp → OuJ h' u → Q (some (.int 0)) h' n := fun z => q0 (fun L rg c' w y => by
    unfold RD at y
    rw [if_neg (by omega), if_neg hne, if_pos z] at y
    cases y)
  simp -implicitDefEqProofs only [s_go, s_nil, s_cons, q_ins, s_op, s_i, s_j, s_a, s_v, s_li, s_lj, s_la, s_liO, s_ljO, s_laO, q_get, q_p1, q_p2, s_n2i, s_n2r, s_n2l, s_n2n, q_pad, q_ar, s_ob, s_obO, q_nth, s_ri, s_riO, s_rb, s_rbO, s_rzO, s_rl, s_rlO, s_rq, s_rqO, s_ry, s_ryO, s_dn, s_tl, s_tn, s_ap, s_an, s_ci, s_cr, s_ni, s_n0, s_n1, q_ags, q_cat, List.contains_nil, List.contains_cons, Nat.reduceBEq, Bool.or_false, Bool.false_or, Bool.true_or, Bool.false_eq_true, ↓reduceIte, Nat.le_refl, Nat.zero_le, true_and, and_true, Nat.reduceLeDiff, Nat.reduceAdd, Nat.add_zero, Nat.zero_add, List.length_cons, List.length_nil, List.set_cons_zero, List.set_cons_succ, Nat.reduceLT, s_fi, s_fl, s_fo, s_fa, s_f0, s_f1, s_set, s_ss, lg_cmp_ge, lg_cmp_le, lg_cmp_gt, lg_cmp_lt, lg_cmp_eq, s_brT, s_brF, s_10, w_Ou_addsGlyph, r_Ou_addsGlyph, l_Ou_addsGlyph_0, l_Ou_addsGlyph_14, l_Ou_addsGlyph_16, l_Ou_addsGlyph_48, l_Ou_addsGlyph_94, l_Ou_addsGlyph_124, l_Ou_addsGlyph_149, l_Ou_addsGlyph_150, kb_6, f_4_40, kc_0, f_4_63, ty_4_9, ml_4_66, w_Fo_dataPlace, kc_1, f_4_29, f_4_70, ml_4_74, w_Cu_begin, ml_4_78, w_Cu_u16, kb_8, ml_4_82, w_Cu_pass, f_4_86, kc_m1, f_4_35, f_4_90, ml_4_91, w_Cu_follow, ml_4_95, w_Ou_addsParts, kb_32, ml_4_98, w_Ou_addsSimple, C0']
  refine q_c0 (Nat.le_refl _) (Nat.le_refl _) ?_
  refine c_Cu_begin (by omega) (by omega) C0 K1.2.2.2.1 B1.1 hs (by omega) d3 ?_
  have sv : ∀ b, b ≠ u + 5 → q_set h1 (u + 5) (e_Cu (o + 1) (G_a F sz gg) (G_a F sz (gg + 1)) 0) b = h1 b := fun b hb => s_ne _ _ hb
  obtain ⟨h2, hh2⟩ : ∃ x, x = q_set h1 (u + 5) (e_Cu (o + 1) (G_a F sz gg) (G_a F sz (gg + 1)) 0) := ⟨_, rfl⟩
  rw [← hh2] at sv
  have C2 : q_Cu h2 (u + 5) (o + 1) (G_a F sz gg) (G_a F sz (gg + 1)) 0 := by rw [hh2]; exact s_set _ _ _
  unfold G_a at hh2
  rw [← hh2]
  have e1 : G_a F sz gg ≤ G_a F sz (gg + 1) := by unfold G_a; omega
  have e2 : G_a F sz (gg + 1) ≤ sz := by unfold G_a; omega
  have O3 := (sv u (by omega)).trans O2
  have O3' := O3
  unfold e_Ou at O3'
  have C2' := C2
  unfold q_Cu at C2'
  simp -implicitDefEqProofs only [s_go, s_nil, s_cons, q_ins, s_op, s_i, s_j, s_a, s_v, s_li, s_lj, s_la, s_liO, s_ljO, s_laO, q_get, q_p1, q_p2, s_n2i, s_n2r, s_n2l, s_n2n, q_pad, q_ar, s_ob, s_obO, q_nth, s_ri, s_riO, s_rb, s_rbO, s_rzO, s_rl, s_rlO, s_rq, s_rqO, s_ry, s_ryO, s_dn, s_tl, s_tn, s_ap, s_an, s_ci, s_cr, s_ni, s_n0, s_n1, q_ags, q_cat, List.contains_nil, List.contains_cons, Nat.reduceBEq, Bool.or_false, Bool.false_or, Bool.true_or, Bool.false_eq_true, ↓reduceIte, Nat.le_refl, Nat.zero_le, true_and, and_true, Nat.reduceLeDiff, Nat.reduceAdd, Nat.add_zero, Nat.zero_add, List.length_cons, List.length_nil, List.set_cons_zero, List.set_cons_succ, Nat.reduceLT, s_fi, s_fl, s_fo, s_fa, s_f0, s_f1, s_set, s_ss, lg_cmp_ge, lg_cmp_le, lg_cmp_gt, lg_cmp_lt, lg_cmp_eq, s_brT, s_brF, s_10, w_Ou_addsGlyph, r_Ou_addsGlyph, l_Ou_addsGlyph_0, l_Ou_addsGlyph_14, l_Ou_addsGlyph_16, l_Ou_addsGlyph_48, l_Ou_addsGlyph_94, l_Ou_addsGlyph_124, l_Ou_addsGlyph_149, l_Ou_addsGlyph_150, kb_6, f_4_40, kc_0, f_4_63, ty_4_9, ml_4_66, w_Fo_dataPlace, kc_1, f_4_29, f_4_70, ml_4_74, w_Cu_begin, ml_4_78, w_Cu_u16, kb_8, ml_4_82, w_Cu_pass, f_4_86, kc_m1, f_4_35, f_4_90, ml_4_91, w_Cu_follow, ml_4_95, w_Ou_addsParts, kb_32, ml_4_98, w_Ou_addsSimple, O3', C2']
  refine q_c0 (Nat.le_refl _) (Nat.le_refl _) ?_
  refine c_Cu_u16X C2 (B1.mv (sv _ (by omega)) (sv _ (by omega))) e2 e1 (fun h3 v p3 ro3 t3 C3 hv => ?_)
  have hv2 : v < 65536 := by
    have := w2_lt hF (G_a F sz gg)
    rcases hv with y | y <;> omega
  have O4 := (t3 u (by omega)).trans O3
  have O4' := O4
  unfold e_Ou at O4'
  have C3' := C3
  unfold q_Cu at C3'
  simp -implicitDefEqProofs only [s_go, s_nil, s_cons, q_ins, s_op, s_i, s_j, s_a, s_v, s_li, s_lj, s_la, s_liO, s_ljO, s_laO, q_get, q_p1, q_p2, s_n2i, s_n2r, s_n2l, s_n2n, q_pad, q_ar, s_ob, s_obO, q_nth, s_ri, s_riO, s_rb, s_rbO, s_rzO, s_rl, s_rlO, s_rq, s_rqO, s_ry, s_ryO, s_dn, s_tl, s_tn, s_ap, s_an, s_ci, s_cr, s_ni, s_n0, s_n1, q_ags, q_cat, List.contains_nil, List.contains_cons, Nat.reduceBEq, Bool.or_false, Bool.false_or, Bool.true_or, Bool.false_eq_true, ↓reduceIte, Nat.le_refl, Nat.zero_le, true_and, and_true, Nat.reduceLeDiff, Nat.reduceAdd, Nat.add_zero, Nat.zero_add, List.length_cons, List.length_nil, List.set_cons_zero, List.set_cons_succ, Nat.reduceLT, s_fi, s_fl, s_fo, s_fa, s_f0, s_f1, s_set, s_ss, lg_cmp_ge, lg_cmp_le, lg_cmp_gt, lg_cmp_lt, lg_cmp_eq, s_brT, s_brF, s_10, w_Ou_addsGlyph, r_Ou_addsGlyph, l_Ou_addsGlyph_0, l_Ou_addsGlyph_14, l_Ou_addsGlyph_16, l_Ou_addsGlyph_48, l_Ou_addsGlyph_94, l_Ou_addsGlyph_124, l_Ou_addsGlyph_149, l_Ou_addsGlyph_150, kb_6, f_4_40, kc_0, f_4_63, ty_4_9, ml_4_66, w_Fo_dataPlace, kc_1, f_4_29, f_4_70, ml_4_74, w_Cu_begin, ml_4_78, w_Cu_u16, kb_8, ml_4_82, w_Cu_pass, f_4_86, kc_m1, f_4_35, f_4_90, ml_4_91, w_Cu_follow, ml_4_95, w_Ou_addsParts, kb_32, ml_4_98, w_Ou_addsSimple, O4', C3', q_s16' hv2]
  refine q_c0 (Nat.le_refl _) (Nat.le_refl _) ?_
  refine c_Cu_pass (k := 8) C3 (by omega) (by omega) (by omega) (fun z => ?_) (fun z => ?_)
  rotate_left
  · obtain ⟨h4, hh4⟩ : ∃ x, x = q_set h3 (u + 5) (e_Cu (o + 1) p3 (G_a F sz (gg + 1)) 1) := ⟨_, rfl⟩
    have C4 : q_Cu h4 (u + 5) (o + 1) p3 (G_a F sz (gg + 1)) 1 := by rw [hh4]; exact s_set _ _ _
    have t4 : ∀ b, b ≠ u + 5 → h4 b = h1 b := fun b hb => by rw [hh4, s_ne _ _ hb]; exact (t3 b hb).trans (sv b hb)
    rw [← hh4]
    have O5 := (t4 u (by omega)).trans O2'
    have C4' := C4
    unfold q_Cu at C4'
    simp -implicitDefEqProofs only [s_go, s_nil, s_cons, q_ins, s_op, s_i, s_j, s_a, s_v, s_li, s_lj, s_la, s_liO, s_ljO, s_laO, q_get, q_p1, q_p2, s_n2i, s_n2r, s_n2l, s_n2n, q_pad, q_ar, s_ob, s_obO, q_nth, s_ri, s_riO, s_rb, s_rbO, s_rzO, s_rl, s_rlO, s_rq, s_rqO, s_ry, s_ryO, s_dn, s_tl, s_tn, s_ap, s_an, s_ci, s_cr, s_ni, s_n0, s_n1, q_ags, q_cat, List.contains_nil, List.contains_cons, Nat.reduceBEq, Bool.or_false, Bool.false_or, Bool.true_or, Bool.false_eq_true, ↓reduceIte, Nat.le_refl, Nat.zero_le, true_and, and_true, Nat.reduceLeDiff, Nat.reduceAdd, Nat.add_zero, Nat.zero_add, List.length_cons, List.length_nil, List.set_cons_zero, List.set_cons_succ, Nat.reduceLT, s_fi, s_fl, s_fo, s_fa, s_f0, s_f1, s_set, s_ss, lg_cmp_ge, lg_cmp_le, lg_cmp_gt, lg_cmp_lt, lg_cmp_eq, s_brT, s_brF, s_10, w_Ou_addsGlyph, r_Ou_addsGlyph, l_Ou_addsGlyph_0, l_Ou_addsGlyph_14, l_Ou_addsGlyph_16, l_Ou_addsGlyph_48, l_Ou_addsGlyph_94, l_Ou_addsGlyph_124, l_Ou_addsGlyph_149, l_Ou_addsGlyph_150, kb_6, f_4_40, kc_0, f_4_63, ty_4_9, ml_4_66, w_Fo_dataPlace, kc_1, f_4_29, f_4_70, ml_4_74, w_Cu_begin, ml_4_78, w_Cu_u16, kb_8, ml_4_82, w_Cu_pass, f_4_86, kc_m1, f_4_35, f_4_90, ml_4_91, w_Cu_follow, ml_4_95, w_Ou_addsParts, kb_32, ml_4_98, w_Ou_addsSimple, O5, C4']
    exact noR (by omega) h4 (fun b hb => (t4 b (by omega)).trans (f1 b hb)) ⟨⟨_, _, _, _, (t4 u (by omega)).trans O2⟩, (G1.mv (fun b z1 z2 => t4 b (by omega))).A, R2.cu (fun b z1 z2 => t4 b (by omega)) C4⟩
  obtain ⟨h4, hh4⟩ : ∃ x, x = q_set h3 (u + 5) (e_Cu (o + 1) (p3 + 8) (G_a F sz (gg + 1)) ro3) := ⟨_, rfl⟩
  have C4 : q_Cu h4 (u + 5) (o + 1) (p3 + 8) (G_a F sz (gg + 1)) ro3 := by rw [hh4]; exact s_set _ _ _
  have t4 : ∀ b, b ≠ u + 5 → h4 b = h1 b := fun b hb => by rw [hh4, s_ne _ _ hb]; exact (t3 b hb).trans (sv b hb)
  rw [← hh4]
  have O5 := (t4 u (by omega)).trans O2
  have O5' := (t4 u (by omega)).trans O2'
  have G4 : OuG h4 u g1 g2 g3 g4 := G1.mv (fun b z1 z2 => t4 b (by omega))
  have R4 : OuR h4 u := R2.cu (fun b z1 z2 => t4 b (by omega)) C4
  have f4 : q_fO h h4 u dp := fun b hb => (t4 b (by omega)).trans (f1 b hb)
  have K4 : FoK h4 o F sz := K1.mv (fun b z1 z2 => t4 b (by omega))
  have B4 : q_By h4 (o + 1) row m g sz F := B1.mv (t4 _ (by omega)) (t4 _ (by omega))
  rcases hv with ⟨v1, v2, v3, v4⟩ | ⟨v1, v2, v3, v4⟩
  rotate_left
  · subst v4
    have C4' := C4
    unfold q_Cu at C4'
    simp -implicitDefEqProofs only [s_go, s_nil, s_cons, q_ins, s_op, s_i, s_j, s_a, s_v, s_li, s_lj, s_la, s_liO, s_ljO, s_laO, q_get, q_p1, q_p2, s_n2i, s_n2r, s_n2l, s_n2n, q_pad, q_ar, s_ob, s_obO, q_nth, s_ri, s_riO, s_rb, s_rbO, s_rzO, s_rl, s_rlO, s_rq, s_rqO, s_ry, s_ryO, s_dn, s_tl, s_tn, s_ap, s_an, s_ci, s_cr, s_ni, s_n0, s_n1, q_ags, q_cat, List.contains_nil, List.contains_cons, Nat.reduceBEq, Bool.or_false, Bool.false_or, Bool.true_or, Bool.false_eq_true, ↓reduceIte, Nat.le_refl, Nat.zero_le, true_and, and_true, Nat.reduceLeDiff, Nat.reduceAdd, Nat.add_zero, Nat.zero_add, List.length_cons, List.length_nil, List.set_cons_zero, List.set_cons_succ, Nat.reduceLT, s_fi, s_fl, s_fo, s_fa, s_f0, s_f1, s_set, s_ss, lg_cmp_ge, lg_cmp_le, lg_cmp_gt, lg_cmp_lt, lg_cmp_eq, s_brT, s_brF, s_10, w_Ou_addsGlyph, r_Ou_addsGlyph, l_Ou_addsGlyph_0, l_Ou_addsGlyph_14, l_Ou_addsGlyph_16, l_Ou_addsGlyph_48, l_Ou_addsGlyph_94, l_Ou_addsGlyph_124, l_Ou_addsGlyph_149, l_Ou_addsGlyph_150, kb_6, f_4_40, kc_0, f_4_63, ty_4_9, ml_4_66, w_Fo_dataPlace, kc_1, f_4_29, f_4_70, ml_4_74, w_Cu_begin, ml_4_78, w_Cu_u16, kb_8, ml_4_82, w_Cu_pass, f_4_86, kc_m1, f_4_35, f_4_90, ml_4_91, w_Cu_follow, ml_4_95, w_Ou_addsParts, kb_32, ml_4_98, w_Ou_addsSimple, O5', C4']
    exact noR (by omega) h4 f4 ⟨⟨_, _, _, _, O5⟩, G4.A, R4⟩
  subst v2 v3 v4
  have C4' := C4
  unfold q_Cu at C4'
  simp -implicitDefEqProofs only [s_go, s_nil, s_cons, q_ins, s_op, s_i, s_j, s_a, s_v, s_li, s_lj, s_la, s_liO, s_ljO, s_laO, q_get, q_p1, q_p2, s_n2i, s_n2r, s_n2l, s_n2n, q_pad, q_ar, s_ob, s_obO, q_nth, s_ri, s_riO, s_rb, s_rbO, s_rzO, s_rl, s_rlO, s_rq, s_rqO, s_ry, s_ryO, s_dn, s_tl, s_tn, s_ap, s_an, s_ci, s_cr, s_ni, s_n0, s_n1, q_ags, q_cat, List.contains_nil, List.contains_cons, Nat.reduceBEq, Bool.or_false, Bool.false_or, Bool.true_or, Bool.false_eq_true, ↓reduceIte, Nat.le_refl, Nat.zero_le, true_and, and_true, Nat.reduceLeDiff, Nat.reduceAdd, Nat.add_zero, Nat.zero_add, List.length_cons, List.length_nil, List.set_cons_zero, List.set_cons_succ, Nat.reduceLT, s_fi, s_fl, s_fo, s_fa, s_f0, s_f1, s_set, s_ss, lg_cmp_ge, lg_cmp_le, lg_cmp_gt, lg_cmp_lt, lg_cmp_eq, s_brT, s_brF, s_10, w_Ou_addsGlyph, r_Ou_addsGlyph, l_Ou_addsGlyph_0, l_Ou_addsGlyph_14, l_Ou_addsGlyph_16, l_Ou_addsGlyph_48, l_Ou_addsGlyph_94, l_Ou_addsGlyph_124, l_Ou_addsGlyph_149, l_Ou_addsGlyph_150, kb_6, f_4_40, kc_0, f_4_63, ty_4_9, ml_4_66, w_Fo_dataPlace, kc_1, f_4_29, f_4_70, ml_4_74, w_Cu_begin, ml_4_78, w_Cu_u16, kb_8, ml_4_82, w_Cu_pass, f_4_86, kc_m1, f_4_35, f_4_90, ml_4_91, w_Cu_follow, ml_4_95, w_Ou_addsParts, kb_32, ml_4_98, w_Ou_addsSimple, O5', C4']
  refine q_at o_Ou_addsGlyph [] 20 l_Ou_addsGlyph_94 ?_
  simp -implicitDefEqProofs only [s_go, s_nil, s_cons, q_ins, s_op, s_i, s_j, s_a, s_v, s_li, s_lj, s_la, s_liO, s_ljO, s_laO, q_get, q_p1, q_p2, s_n2i, s_n2r, s_n2l, s_n2n, q_pad, q_ar, s_ob, s_obO, q_nth, s_ri, s_riO, s_rb, s_rbO, s_rzO, s_rl, s_rlO, s_rq, s_rqO, s_ry, s_ryO, s_dn, s_tl, s_tn, s_ap, s_an, s_ci, s_cr, s_ni, s_n0, s_n1, q_ags, q_cat, List.contains_nil, List.contains_cons, Nat.reduceBEq, Bool.or_false, Bool.false_or, Bool.true_or, Bool.false_eq_true, ↓reduceIte, Nat.le_refl, Nat.zero_le, true_and, and_true, Nat.reduceLeDiff, Nat.reduceAdd, Nat.add_zero, Nat.zero_add, List.length_cons, List.length_nil, List.set_cons_zero, List.set_cons_succ, Nat.reduceLT, s_fi, s_fl, s_fo, s_fa, s_f0, s_f1, s_set, s_ss, lg_cmp_ge, lg_cmp_le, lg_cmp_gt, lg_cmp_lt, lg_cmp_eq, s_brT, s_brF, s_10, w_Ou_addsGlyph, r_Ou_addsGlyph, l_Ou_addsGlyph_0, l_Ou_addsGlyph_14, l_Ou_addsGlyph_16, l_Ou_addsGlyph_48, l_Ou_addsGlyph_94, l_Ou_addsGlyph_124, l_Ou_addsGlyph_149, l_Ou_addsGlyph_150, kb_6, f_4_40, kc_0, f_4_63, ty_4_9, ml_4_66, w_Fo_dataPlace, kc_1, f_4_29, f_4_70, ml_4_74, w_Cu_begin, ml_4_78, w_Cu_u16, kb_8, ml_4_82, w_Cu_pass, f_4_86, kc_m1, f_4_35, f_4_90, ml_4_91, w_Cu_follow, ml_4_95, w_Ou_addsParts, kb_32, ml_4_98, w_Ou_addsSimple, O5', C4']
  have hw := w2_lt hF (G_a F sz gg)
  have fn4 := (t4 (u + 6) (by omega)).trans fn1
  have fn3 := fn2 dp (by omega)
  obtain ⟨⟨a1, a2, a3, a4, a5, a6, a7, a8, P4⟩, fk, pk, ek, rk, D4⟩ := R4.2.2 dp (by omega)
  have P4' := P4
  unfold e_Pa at P4'
  have D4' := D4
  unfold q_Cu at D4'
  have C5 : q_Cu h4 (u + 5) (o + 1) (G_a F sz gg + 10) (G_a F sz (gg + 1)) 0 := C4
  rw [q_k1 hw, q_k2 hw, q_k3 hw]
  refine ⟨fun w1 => ?_, fun w1 => ⟨fun k2 => ?_, fun k2 => ⟨fun k3 => ?_, fun k3 => ?_⟩⟩⟩
  · simp -implicitDefEqProofs only [s_go, s_nil, s_cons, q_ins, s_op, s_i, s_j, s_a, s_v, s_li, s_lj, s_la, s_liO, s_ljO, s_laO, q_get, q_p1, q_p2, s_n2i, s_n2r, s_n2l, s_n2n, q_pad, q_ar, s_ob, s_obO, q_nth, s_ri, s_riO, s_rb, s_rbO, s_rzO, s_rl, s_rlO, s_rq, s_rqO, s_ry, s_ryO, s_dn, s_tl, s_tn, s_ap, s_an, s_ci, s_cr, s_ni, s_n0, s_n1, q_ags, q_cat, List.contains_nil, List.contains_cons, Nat.reduceBEq, Bool.or_false, Bool.false_or, Bool.true_or, Bool.false_eq_true, ↓reduceIte, Nat.le_refl, Nat.zero_le, true_and, and_true, Nat.reduceLeDiff, Nat.reduceAdd, Nat.add_zero, Nat.zero_add, List.length_cons, List.length_nil, List.set_cons_zero, List.set_cons_succ, Nat.reduceLT, s_fi, s_fl, s_fo, s_fa, s_f0, s_f1, s_set, s_ss, lg_cmp_ge, lg_cmp_le, lg_cmp_gt, lg_cmp_lt, lg_cmp_eq, s_brT, s_brF, s_10, w_Ou_addsGlyph, r_Ou_addsGlyph, l_Ou_addsGlyph_0, l_Ou_addsGlyph_14, l_Ou_addsGlyph_16, l_Ou_addsGlyph_48, l_Ou_addsGlyph_94, l_Ou_addsGlyph_124, l_Ou_addsGlyph_149, l_Ou_addsGlyph_150, kb_6, f_4_40, kc_0, f_4_63, ty_4_9, ml_4_66, w_Fo_dataPlace, kc_1, f_4_29, f_4_70, ml_4_74, w_Cu_begin, ml_4_78, w_Cu_u16, kb_8, ml_4_82, w_Cu_pass, f_4_86, kc_m1, f_4_35, f_4_90, ml_4_91, w_Cu_follow, ml_4_95, w_Ou_addsParts, kb_32, ml_4_98, w_Ou_addsSimple, fn4, nI_clamp (show dp < 2 ^ 31 by omega), fn3, va_rf, P4', D4']
    refine ⟨vp_in_nI (by omega) (by omega), ?_⟩
    refine q_c0 (Nat.le_refl _) (Nat.le_refl _) ?_
    refine c_Cu_follow (by omega) D4 C5 ⟨rfl, rfl⟩ ?_
    obtain ⟨h5, hh5⟩ : ∃ x, x = q_set h4 (u + 8 + 2 * dp) (e_Cu (o + 1) (G_a F sz gg + 10) (G_a F sz (gg + 1)) 0) := ⟨_, rfl⟩
    have D5 : q_Cu h5 (u + 8 + 2 * dp) (o + 1) (G_a F sz gg + 10) (G_a F sz (gg + 1)) 0 := by rw [hh5]; exact s_set _ _ _
    have t5 : ∀ b, b ≠ u + 8 + 2 * dp → h5 b = h4 b := fun b hb => by rw [hh5, s_ne _ _ hb]
    rw [← hh5]
    have O6 := (t5 u (by omega)).trans O5
    have O6' := (t5 u (by omega)).trans O5'
    have R5 : OuR h5 u := R4.mv (dp := dp) (fun b z1 z2 z3 z4 => t5 b z4) ⟨⟨_, _, _, _, _, _, _, _, (t5 _ (by omega)).trans P4⟩, _, _, _, _, D5⟩
    have f5 : q_fO h h5 u dp := fun b hb => (t5 b (by omega)).trans (f4 b hb)
    have eq : RD F sz (r + 1) gg c = PR F (G_a F sz (gg + 1)) (RD F sz r) 16 [] 0 c gg (G_a F sz gg + 10) := by
      conv => lhs; unfold RD
      rw [if_neg (by omega), if_neg hne, if_neg (by omega), if_pos w1]
    simp -implicitDefEqProofs only [s_go, s_nil, s_cons, q_ins, s_op, s_i, s_j, s_a, s_v, s_li, s_lj, s_la, s_liO, s_ljO, s_laO, q_get, q_p1, q_p2, s_n2i, s_n2r, s_n2l, s_n2n, q_pad, q_ar, s_ob, s_obO, q_nth, s_ri, s_riO, s_rb, s_rbO, s_rzO, s_rl, s_rlO, s_rq, s_rqO, s_ry, s_ryO, s_dn, s_tl, s_tn, s_ap, s_an, s_ci, s_cr, s_ni, s_n0, s_n1, q_ags, q_cat, List.contains_nil, List.contains_cons, Nat.reduceBEq, Bool.or_false, Bool.false_or, Bool.true_or, Bool.false_eq_true, ↓reduceIte, Nat.le_refl, Nat.zero_le, true_and, and_true, Nat.reduceLeDiff, Nat.reduceAdd, Nat.add_zero, Nat.zero_add, List.length_cons, List.length_nil, List.set_cons_zero, List.set_cons_succ, Nat.reduceLT, s_fi, s_fl, s_fo, s_fa, s_f0, s_f1, s_set, s_ss, lg_cmp_ge, lg_cmp_le, lg_cmp_gt, lg_cmp_lt, lg_cmp_eq, s_brT, s_brF, s_10, w_Ou_addsGlyph, r_Ou_addsGlyph, l_Ou_addsGlyph_0, l_Ou_addsGlyph_14, l_Ou_addsGlyph_16, l_Ou_addsGlyph_48, l_Ou_addsGlyph_94, l_Ou_addsGlyph_124, l_Ou_addsGlyph_149, l_Ou_addsGlyph_150, kb_6, f_4_40, kc_0, f_4_63, ty_4_9, ml_4_66, w_Fo_dataPlace, kc_1, f_4_29, f_4_70, ml_4_74, w_Cu_begin, ml_4_78, w_Cu_u16, kb_8, ml_4_82, w_Cu_pass, f_4_86, kc_m1, f_4_35, f_4_90, ml_4_91, w_Cu_follow, ml_4_95, w_Ou_addsParts, kb_32, ml_4_98, w_Ou_addsSimple, O6']
    refine q_c0 (Nat.le_refl _) (Nat.le_refl _) ?_
    refine c_Ou_addsParts IH ⟨hap1, hap2⟩ (by omega) e2 hct htot hc hg z (K4.mv (fun b z1 z2 => t5 b (by omega))) (B4.mv (t5 _ (by omega)) (t5 _ (by omega))) O6 (G4.mv (fun b z1 z2 => t5 b (by omega))) R5 D5 (fun L rg' c' w hP hlen h6 a1 a2 a3 a4 f6 O7 G6 R6 L6 K6 => ?_) (fun hP h6 f6 J6 => ?_)
    · simp -implicitDefEqProofs only [s_go, s_nil, s_cons, q_ins, s_op, s_i, s_j, s_a, s_v, s_li, s_lj, s_la, s_liO, s_ljO, s_laO, q_get, q_p1, q_p2, s_n2i, s_n2r, s_n2l, s_n2n, q_pad, q_ar, s_ob, s_obO, q_nth, s_ri, s_riO, s_rb, s_rbO, s_rzO, s_rl, s_rlO, s_rq, s_rqO, s_ry, s_ryO, s_dn, s_tl, s_tn, s_ap, s_an, s_ci, s_cr, s_ni, s_n0, s_n1, q_ags, q_cat, List.contains_nil, List.contains_cons, Nat.reduceBEq, Bool.or_false, Bool.false_or, Bool.true_or, Bool.false_eq_true, ↓reduceIte, Nat.le_refl, Nat.zero_le, true_and, and_true, Nat.reduceLeDiff, Nat.reduceAdd, Nat.add_zero, Nat.zero_add, List.length_cons, List.length_nil, List.set_cons_zero, List.set_cons_succ, Nat.reduceLT, s_fi, s_fl, s_fo, s_fa, s_f0, s_f1, s_set, s_ss, lg_cmp_ge, lg_cmp_le, lg_cmp_gt, lg_cmp_lt, lg_cmp_eq, s_brT, s_brF, s_10, w_Ou_addsGlyph, r_Ou_addsGlyph, l_Ou_addsGlyph_0, l_Ou_addsGlyph_14, l_Ou_addsGlyph_16, l_Ou_addsGlyph_48, l_Ou_addsGlyph_94, l_Ou_addsGlyph_124, l_Ou_addsGlyph_149, l_Ou_addsGlyph_150, kb_6, f_4_40, kc_0, f_4_63, ty_4_9, ml_4_66, w_Fo_dataPlace, kc_1, f_4_29, f_4_70, ml_4_74, w_Cu_begin, ml_4_78, w_Cu_u16, kb_8, ml_4_82, w_Cu_pass, f_4_86, kc_m1, f_4_35, f_4_90, ml_4_91, w_Cu_follow, ml_4_95, w_Ou_addsParts, kb_32, ml_4_98, w_Ou_addsSimple]
      exact q1 L rg' c' w (eq.trans hP) hlen h6 a1 a2 a3 a4 (fun b hb => (f6 b hb).trans (f5 b hb)) O7 G6 R6 L6 K6
    · simp -implicitDefEqProofs only [s_go, s_nil, s_cons, q_ins, s_op, s_i, s_j, s_a, s_v, s_li, s_lj, s_la, s_liO, s_ljO, s_laO, q_get, q_p1, q_p2, s_n2i, s_n2r, s_n2l, s_n2n, q_pad, q_ar, s_ob, s_obO, q_nth, s_ri, s_riO, s_rb, s_rbO, s_rzO, s_rl, s_rlO, s_rq, s_rqO, s_ry, s_ryO, s_dn, s_tl, s_tn, s_ap, s_an, s_ci, s_cr, s_ni, s_n0, s_n1, q_ags, q_cat, List.contains_nil, List.contains_cons, Nat.reduceBEq, Bool.or_false, Bool.false_or, Bool.true_or, Bool.false_eq_true, ↓reduceIte, Nat.le_refl, Nat.zero_le, true_and, and_true, Nat.reduceLeDiff, Nat.reduceAdd, Nat.add_zero, Nat.zero_add, List.length_cons, List.length_nil, List.set_cons_zero, List.set_cons_succ, Nat.reduceLT, s_fi, s_fl, s_fo, s_fa, s_f0, s_f1, s_set, s_ss, lg_cmp_ge, lg_cmp_le, lg_cmp_gt, lg_cmp_lt, lg_cmp_eq, s_brT, s_brF, s_10, w_Ou_addsGlyph, r_Ou_addsGlyph, l_Ou_addsGlyph_0, l_Ou_addsGlyph_14, l_Ou_addsGlyph_16, l_Ou_addsGlyph_48, l_Ou_addsGlyph_94, l_Ou_addsGlyph_124, l_Ou_addsGlyph_149, l_Ou_addsGlyph_150, kb_6, f_4_40, kc_0, f_4_63, ty_4_9, ml_4_66, w_Fo_dataPlace, kc_1, f_4_29, f_4_70, ml_4_74, w_Cu_begin, ml_4_78, w_Cu_u16, kb_8, ml_4_82, w_Cu_pass, f_4_86, kc_m1, f_4_35, f_4_90, ml_4_91, w_Cu_follow, ml_4_95, w_Ou_addsParts, kb_32, ml_4_98, w_Ou_addsSimple]
      exact q0 (fun L rg' c' w y => hP L rg' c' w (eq.symm.trans y)) h6 (fun b hb => (f6 b hb).trans (f5 b hb)) J6
  · exact q0 (fun L rg c' w y => by
      unfold RD at y
      rw [if_neg (by omega), if_neg hne, if_neg (by omega), if_neg w1, cI_n (fun q => by have := q.1; omega)] at y
      cases y) h4 f4 ⟨⟨_, _, _, _, O5⟩, G4.A, R4⟩
  · exact q0 (fun L rg c' w y => by
      unfold RD at y
      rw [if_neg (by omega), if_neg hne, if_neg (by omega), if_neg w1, cI_n (fun q => by have := q.1; omega)] at y
      cases y) h4 f4 ⟨⟨_, _, _, _, O5⟩, G4.A, R4⟩
  have hw32 : w2 F (G_a F sz gg) ≤ 32 := by omega
  rw [show S16 (w2 F (G_a F sz gg)) = ((w2 F (G_a F sz gg) : Nat) : Int) by unfold S16; rw [if_neg (by omega)], iI_nat]
  obtain ⟨C, hCw⟩ : ∃ C, C = w2 F (G_a F sz gg) := ⟨_, rfl⟩
  have eq : RD F sz (r + 1) gg c = cI (C ≤ 32 ∧ SIM_ok F (G_a F sz (gg + 1)) (G_a F sz gg + 10) 0 C) (some (SIMP F (G_a F sz (gg + 1)) (G_a F sz gg + 10) C, C, c, gg)) none := by
    rw [hCw]
    conv => lhs; unfold RD
    rw [if_neg (by omega), if_neg hne, if_neg (by omega), if_neg w1]
  rw [← hCw] at hw32 ⊢
  refine q_c0 (Nat.le_refl _) (Nat.le_refl _) ?_
  refine c_Ou_addsSimple (C := C) (p0 := G_a F sz gg + 10) e2 z hw32 (by omega) htot (by omega) (by omega) O5 B4 G4.1 G4.2.1 G4.2.2.1 G4.2.2.2 C5 (fun cs f1' px v' py w' pz fs as1 as2 h5 b1 b2 b3 b4 t5 O6 Y1 Y2 Y3 Y4 X1 X2 X3 X4 hcu => ?_) (fun ns h5 pts' cts' p' ro t5 O6 Y1 C6 hro => ?_)
  · obtain ⟨p', C6⟩ := hcu
    have sim := (SIM_first htot).mp ⟨cs, f1', px, fs, v', py, as1, w', pz, as2⟩
    have hl := SIMP_len sim.1
    simp -implicitDefEqProofs only [s_go, s_nil, s_cons, q_ins, s_op, s_i, s_j, s_a, s_v, s_li, s_lj, s_la, s_liO, s_ljO, s_laO, q_get, q_p1, q_p2, s_n2i, s_n2r, s_n2l, s_n2n, q_pad, q_ar, s_ob, s_obO, q_nth, s_ri, s_riO, s_rb, s_rbO, s_rzO, s_rl, s_rlO, s_rq, s_rqO, s_ry, s_ryO, s_dn, s_tl, s_tn, s_ap, s_an, s_ci, s_cr, s_ni, s_n0, s_n1, q_ags, q_cat, List.contains_nil, List.contains_cons, Nat.reduceBEq, Bool.or_false, Bool.false_or, Bool.true_or, Bool.false_eq_true, ↓reduceIte, Nat.le_refl, Nat.zero_le, true_and, and_true, Nat.reduceLeDiff, Nat.reduceAdd, Nat.add_zero, Nat.zero_add, List.length_cons, List.length_nil, List.set_cons_zero, List.set_cons_succ, Nat.reduceLT, s_fi, s_fl, s_fo, s_fa, s_f0, s_f1, s_set, s_ss, lg_cmp_ge, lg_cmp_le, lg_cmp_gt, lg_cmp_lt, lg_cmp_eq, s_brT, s_brF, s_10, w_Ou_addsGlyph, r_Ou_addsGlyph, l_Ou_addsGlyph_0, l_Ou_addsGlyph_14, l_Ou_addsGlyph_16, l_Ou_addsGlyph_48, l_Ou_addsGlyph_94, l_Ou_addsGlyph_124, l_Ou_addsGlyph_149, l_Ou_addsGlyph_150, kb_6, f_4_40, kc_0, f_4_63, ty_4_9, ml_4_66, w_Fo_dataPlace, kc_1, f_4_29, f_4_70, ml_4_74, w_Cu_begin, ml_4_78, w_Cu_u16, kb_8, ml_4_82, w_Cu_pass, f_4_86, kc_m1, f_4_35, f_4_90, ml_4_91, w_Cu_follow, ml_4_95, w_Ou_addsParts, kb_32, ml_4_98, w_Ou_addsSimple]
    refine q1 (SIMP F (G_a F sz (gg + 1)) (G_a F sz gg + 10) C) C c gg (by rw [eq]; exact cI_p ⟨hw32, sim.1⟩) (by omega) h5 b1 b2 b3 b4 (fun b hb => (t5 b (by omega)).trans (f4 b hb)) (by rw [hl]; exact O6) ⟨Y1, Y2, Y3, Y4⟩ (R4.cu (fun b z1 z2 => t5 b (by omega)) C6) (fun j hj => ?_) (fun j hj => ?_)
    · rw [hl] at hj
      rw [SIMP_at fs as1 hj]
      exact ⟨X1.1 j hj, X2.1 j hj, X3.1 j hj, X4.1 j hj⟩
    · exact ⟨X1.2 j (Or.inl hj), X2.2 j (Or.inl hj), X3.2 j (Or.inl hj), X4.2 j hj⟩
  · simp -implicitDefEqProofs only [s_go, s_nil, s_cons, q_ins, s_op, s_i, s_j, s_a, s_v, s_li, s_lj, s_la, s_liO, s_ljO, s_laO, q_get, q_p1, q_p2, s_n2i, s_n2r, s_n2l, s_n2n, q_pad, q_ar, s_ob, s_obO, q_nth, s_ri, s_riO, s_rb, s_rbO, s_rzO, s_rl, s_rlO, s_rq, s_rqO, s_ry, s_ryO, s_dn, s_tl, s_tn, s_ap, s_an, s_ci, s_cr, s_ni, s_n0, s_n1, q_ags, q_cat, List.contains_nil, List.contains_cons, Nat.reduceBEq, Bool.or_false, Bool.false_or, Bool.true_or, Bool.false_eq_true, ↓reduceIte, Nat.le_refl, Nat.zero_le, true_and, and_true, Nat.reduceLeDiff, Nat.reduceAdd, Nat.add_zero, Nat.zero_add, List.length_cons, List.length_nil, List.set_cons_zero, List.set_cons_succ, Nat.reduceLT, s_fi, s_fl, s_fo, s_fa, s_f0, s_f1, s_set, s_ss, lg_cmp_ge, lg_cmp_le, lg_cmp_gt, lg_cmp_lt, lg_cmp_eq, s_brT, s_brF, s_10, w_Ou_addsGlyph, r_Ou_addsGlyph, l_Ou_addsGlyph_0, l_Ou_addsGlyph_14, l_Ou_addsGlyph_16, l_Ou_addsGlyph_48, l_Ou_addsGlyph_94, l_Ou_addsGlyph_124, l_Ou_addsGlyph_149, l_Ou_addsGlyph_150, kb_6, f_4_40, kc_0, f_4_63, ty_4_9, ml_4_66, w_Fo_dataPlace, kc_1, f_4_29, f_4_70, ml_4_74, w_Cu_begin, ml_4_78, w_Cu_u16, kb_8, ml_4_82, w_Cu_pass, f_4_86, kc_m1, f_4_35, f_4_90, ml_4_91, w_Cu_follow, ml_4_95, w_Ou_addsParts, kb_32, ml_4_98, w_Ou_addsSimple]
    refine q0 (fun L rg c' w y => ?_) h5 (fun b hb => (t5 b (by omega)).trans (f4 b hb)) ⟨⟨_, _, _, _, O6⟩, Y1, R4.cu (fun b z1 z2 => t5 b (by omega)) C6⟩
    rw [eq] at y
    unfold cI at y
    split at y
    · rename_i q
      cases y
      rw [SIMP_len q.2]
      exact Nat.lt_of_not_le (fun x => ns ((SIM_first htot).mpr ⟨q.2, x⟩))
    · cases y
/-- at every depth -/
theorem AG_all {G : q_G} {l : Launch} {F : Nat → Nat} {sz o row m : Nat} {g : Nat → Int32} {u : Nat} (hap : q_ap u o row) (hlo : (t_lo F sz).1 + (t_lo F sz).2 ≤ sz) (hgl : (t_gl F sz).1 + (t_gl F sz).2 ≤ sz) (hN : f_N F sz < 65536) (hPL : PL_ok F (f_LP F sz = 1) (t_lo F sz).1 (t_lo F sz).2 (t_gl F sz).2 (f_N F sz)) : ∀ r, AGs G l F sz o row m g u r
  | 0 => AG_0
  | r + 1 => AG_s hap hlo hgl hN hPL (AG_all hap hlo hgl hN hPL r)
