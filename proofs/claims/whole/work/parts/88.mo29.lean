/-! the reference: load -/
/-- a font is held -/
def MoC (h : q_H) (y : Nat) (F : Nat → Nat) (sz : Nat) : Prop := (∃ gf : Nat → Int32, h (y + 2) = some (.inl (0, 16384, .inl gf)) ∧ ∀ j, j < sz → gf j = nI (F j)) ∧ ∃ gp gl : Nat → Int32, h (y + 4) = some (.inl (0, 16, .inl gp)) ∧ h (y + 5) = some (.inl (0, 16, .inl gl)) ∧ ∀ t, t < 7 → gp (8 + t) = nI (TB F sz t).1 ∧ gl (8 + t) = nI (TB F sz t).2
/-- what a load that fails keeps -/
def ML (h h' : q_H) (y : Nat) : Prop := (∀ b, (b < y + 4 ∨ y + 24 < b) → h' b = h b) ∧ ∀ gp0 gl0 : Nat → Int32, h (y + 4) = some (.inl (0, 16, .inl gp0)) → h (y + 5) = some (.inl (0, 16, .inl gl0)) → ∃ gp gl : Nat → Int32, h' (y + 4) = some (.inl (0, 16, .inl gp)) ∧ h' (y + 5) = some (.inl (0, 16, .inl gl)) ∧ ∀ j, 7 ≤ j → gp j = gp0 j ∧ gl j = gl0 j
theorem ML.mc {h h' : q_H} {y : Nat} {F : Nat → Nat} {sz : Nat} (m : ML h h' y) (c : MoC h y F sz) : MoC h' y F sz := by
  obtain ⟨⟨gf, f1, f2⟩, gp0, gl0, p1, p2, p3⟩ := c
  obtain ⟨gp, gl, r1, r2, r3⟩ := m.2 gp0 gl0 p1 p2
  exact ⟨⟨gf, (m.1 (y + 2) (by omega)).trans f1, f2⟩, gp, gl, r1, r2, fun t ht => ⟨(r3 (8 + t) (by omega)).1.trans (p3 t ht).1, (r3 (8 + t) (by omega)).2.trans (p3 t ht).2⟩⟩
theorem ML.rf (h : q_H) (y : Nat) : ML h h y := ⟨fun _ _ => rfl, fun gp gl a b => ⟨gp, gl, a, b, fun _ _ => ⟨rfl, rfl⟩⟩⟩
theorem ML.kd {h h1 h2 : q_H} {y : Nat} (m : ML h h1 y) (k : KD h1 h2 y 0) : ML h h2 y := by
  refine ⟨fun b hb => (k.1 b (by omega)).trans (m.1 b hb), fun gp0 gl0 a b => ?_⟩
  obtain ⟨gp, gl, r1, r2, r3⟩ := m.2 gp0 gl0 a b
  exact ⟨gp, gl, (k.1 _ (by omega)).trans r1, (k.1 _ (by omega)).trans r2, r3⟩
theorem ML.mp {h : q_H} {y : Nat} {gp gl gp0 gl0 : Nat → Int32} (h4 : h (y + 4) = some (.inl (0, 16, .inl gp0))) (h5 : h (y + 5) = some (.inl (0, 16, .inl gl0))) (r : ∀ j, 7 ≤ j → gp j = gp0 j ∧ gl j = gl0 j) : ML h (Mp h y gp gl) y := by
  refine ⟨fun b hb => Mp_n (by omega) (by omega), fun a b a4 b5 => ⟨gp, gl, Mp_4, Mp_5, fun j hj => ?_⟩⟩
  rw [h4] at a4
  rw [h5] at b5
  cases a4
  cases b5
  exact r j hj
theorem MoE.mp {h : q_H} {y : Nat} {gp gl : Nat → Int32} (E : MoE h y) : MoE (Mp h y gp gl) y := fun k h1 h2 => by
  rw [Mp_n (by omega) (by omega)]
  exact E k h1 h2
theorem MoE.kd0 {h h' : q_H} {y : Nat} (E : MoE h y) (e : ∀ b, y + 6 ≤ b → b ≤ y + 24 → h' b = h b) : MoE h' y := fun k h1 h2 => by
  rw [e _ (by omega) (by omega)]
  exact E k h1 h2
theorem TB_in {F : Nat → Nat} {sz : Nat} (hf : FILE_ok F sz) (t : Nat) : (TB F sz t).1 + (TB F sz t).2 ≤ sz := by
  unfold TB TT
  cases e : FK F sz (nms.getD t 0) with
  | none => show 0 + 0 ≤ sz; omega
  | some j =>
    have := FKr_some (NT F sz) 0 j e
    exact (hf.2.2.2.2 j (by omega)).2
theorem MoR.of1 {h : q_H} {y : Nat} {F : Nat → Nat} {sz : Nat} (c : MoC h y F sz) (hs : sz ≤ 16384) (hb : ∀ j, F j < 256) (hf : FILE_ok F sz) : MoR h y 1 F sz := ⟨Or.inr ⟨rfl, c.1⟩, by
  obtain ⟨gp, gl, p1, p2, p3⟩ := c.2
  exact ⟨gp, gl, p1, p2, Or.inr ⟨rfl, p3⟩⟩, hs, hb, fun t _ => TB_in hf t⟩
theorem mp_w_e {F : Nat → Nat} {sz : Nat} (h : MAP_ok F (t_cm F sz).1 (t_cm F sz).2) : (FEr F (t_cm F sz).1 (t_cm F sz).2 (mp_k true) 0 (mpN F (t_cm F sz).1 (t_cm F sz).2)).isSome = mp_w F sz := by
  unfold mp_w
  have me : MAPe F (t_cm F sz).1 (t_cm F sz).2 = match FEr F (t_cm F sz).1 (t_cm F sz).2 10 0 (mpN F (t_cm F sz).1 (t_cm F sz).2) with
    | some k => some (true, U32 F (t_cm F sz).1 (t_cm F sz).2 (4 + 8 * k + 4))
    | none => match FEr F (t_cm F sz).1 (t_cm F sz).2 1 0 (mpN F (t_cm F sz).1 (t_cm F sz).2) with
      | some k => some (false, U32 F (t_cm F sz).1 (t_cm F sz).2 (4 + 8 * k + 4))
      | none => none := rfl
  show (FEr F (t_cm F sz).1 (t_cm F sz).2 10 0 (mpN F (t_cm F sz).1 (t_cm F sz).2)).isSome = _
  rw [me]
  cases FEr F (t_cm F sz).1 (t_cm F sz).2 10 0 (mpN F (t_cm F sz).1 (t_cm F sz).2) with
  | some k => rfl
  | none =>
    cases FEr F (t_cm F sz).1 (t_cm F sz).2 1 0 (mpN F (t_cm F sz).1 (t_cm F sz).2) with
    | some k => rfl
    | none => rfl
set_option maxRecDepth 100000 in
set_option maxHeartbeats 4000000 in
theorem e_Mo_load {G : q_G} {l : Launch} {dd y n sz : Nat} {wi pr le : Int32} {x1 x2 : Option Value} {F : Nat → Nat} {h : q_H} {Q : q_P} (hc : MoC h y F sz) (hs : sz ≤ 16384) (hb : ∀ j, F j < 256) (hf : FILE_ok F sz) (hm : FORM_ok F sz) (hq : Q (some (.int (nI (f_N F sz)))) (Mh h y 0 (nI sz) 1 (bI (mp_w F sz)) 1 (bI false) pr le) n) {fo of_ : Int32} :
    q_Z G l M_Mo_load (dd + 9) 0 0 Q 160 [some (.ref y), x1, x2] [] (Mh h y 0 (nI sz) fo wi of_ (bI false) pr le) n 0 0 := by
  have R := MoR.of1 hc hs hb hf
  refine q_at o_Mo_load [] 20 l_Mo_load_160 ?_
  simp -implicitDefEqProofs only [s_go, s_nil, s_cons, q_ins, s_op, s_i, s_j, s_a, s_v, s_li, s_lj, s_la, s_liO, s_ljO, s_laO, q_get, q_p1, q_p2, s_n2i, s_n2r, s_n2l, s_n2n, q_pad, q_ar, s_ob, s_obO, q_nth, s_ri, s_riO, s_rb, s_rbO, s_rzO, s_rl, s_rlO, s_rq, s_rqO, s_ry, s_ryO, s_dn, s_tl, s_tn, s_ap, s_an, s_ci, s_cr, s_ni, s_n0, s_n1, q_ags, q_cat, List.contains_nil, List.contains_cons, Nat.reduceBEq, Bool.or_false, Bool.false_or, Bool.true_or, Bool.false_eq_true, ↓reduceIte, Nat.le_refl, Nat.zero_le, true_and, and_true, Nat.reduceLeDiff, Nat.reduceAdd, Nat.add_zero, Nat.zero_add, List.length_cons, List.length_nil, List.set_cons_zero, List.set_cons_succ, Nat.reduceLT, s_fi, s_fl, s_fo, s_fa, s_f0, s_f1, s_set, s_ss, lg_cmp_ge, lg_cmp_le, lg_cmp_gt, lg_cmp_lt, lg_cmp_eq, s_brT, s_brF, s_10, w_Mo_load, r_Mo_load, l_Mo_load_0, l_Mo_load_28, l_Mo_load_36, l_Mo_load_46, l_Mo_load_60, l_Mo_load_74, l_Mo_load_88, l_Mo_load_90, l_Mo_load_116, l_Mo_load_118, l_Mo_load_160, kc_0, f_8_90, ty_8_0, f_8_105, ty_8_7, f_8_113, ty_8_6, ml_8_215, w_Mo_checkFile, kc_m1, ml_8_218, w_Mo_checkSums, kb_m2, ml_8_221, w_Mo_findTables, kb_m3, ml_8_224, w_Mo_checkForms, kb_m4, ml_8_227, w_Mo_checkGlyphs, kb_m5, f_8_94, f_8_13, f_8_7, kc_1, kb_7, f_8_19, kb_8, f_8_22, f_8_230, ty_8_4, ml_8_192, w_Mo_hasMap, f_8_233, ty_8_5, ml_8_175, w_Mo_glyphCount, Mh_y, Mh_1, Mh_s1, Mh_2, Mh_s2, Mh_3, Mh_s3, Mh_4, Mh_s4, Mh_5, Mh_s5, Mh_6, Mh_s6, Mh_7, Mh_s7, Mh_8, Mh_s8, Mh_9, Mh_s9, Mh_10, Mh_s10, Mh_11, Mh_s11, Mh_12, Mh_s12, Mh_13, Mh_s13, Mh_14, Mh_s14, Mh_15, Mh_s15, Mh_16, Mh_s16, Mh_17, Mh_s17, Mh_18, Mh_s18, Mh_19, Mh_s19, Mh_20, Mh_s20, Mh_21, Mh_s21, Mh_22, Mh_s22, Mh_23, Mh_s23, Mh_24, Mh_s24, Mh_p]
  refine q_c0 (Nat.le_refl _) (Nat.le_refl _) ?_
  refine c_Mo_hasMap (d := dd + 2) (w := true) rfl R hm.2.2.1 ?_
  rw [mp_w_e hm.2.2]
  simp -implicitDefEqProofs only [s_go, s_nil, s_cons, q_ins, s_op, s_i, s_j, s_a, s_v, s_li, s_lj, s_la, s_liO, s_ljO, s_laO, q_get, q_p1, q_p2, s_n2i, s_n2r, s_n2l, s_n2n, q_pad, q_ar, s_ob, s_obO, q_nth, s_ri, s_riO, s_rb, s_rbO, s_rzO, s_rl, s_rlO, s_rq, s_rqO, s_ry, s_ryO, s_dn, s_tl, s_tn, s_ap, s_an, s_ci, s_cr, s_ni, s_n0, s_n1, q_ags, q_cat, List.contains_nil, List.contains_cons, Nat.reduceBEq, Bool.or_false, Bool.false_or, Bool.true_or, Bool.false_eq_true, ↓reduceIte, Nat.le_refl, Nat.zero_le, true_and, and_true, Nat.reduceLeDiff, Nat.reduceAdd, Nat.add_zero, Nat.zero_add, List.length_cons, List.length_nil, List.set_cons_zero, List.set_cons_succ, Nat.reduceLT, s_fi, s_fl, s_fo, s_fa, s_f0, s_f1, s_set, s_ss, lg_cmp_ge, lg_cmp_le, lg_cmp_gt, lg_cmp_lt, lg_cmp_eq, s_brT, s_brF, s_10, w_Mo_load, r_Mo_load, l_Mo_load_0, l_Mo_load_28, l_Mo_load_36, l_Mo_load_46, l_Mo_load_60, l_Mo_load_74, l_Mo_load_88, l_Mo_load_90, l_Mo_load_116, l_Mo_load_118, l_Mo_load_160, kc_0, f_8_90, ty_8_0, f_8_105, ty_8_7, f_8_113, ty_8_6, ml_8_215, w_Mo_checkFile, kc_m1, ml_8_218, w_Mo_checkSums, kb_m2, ml_8_221, w_Mo_findTables, kb_m3, ml_8_224, w_Mo_checkForms, kb_m4, ml_8_227, w_Mo_checkGlyphs, kb_m5, f_8_94, f_8_13, f_8_7, kc_1, kb_7, f_8_19, kb_8, f_8_22, f_8_230, ty_8_4, ml_8_192, w_Mo_hasMap, f_8_233, ty_8_5, ml_8_175, w_Mo_glyphCount, Mh_y, Mh_1, Mh_s1, Mh_2, Mh_s2, Mh_3, Mh_s3, Mh_4, Mh_s4, Mh_5, Mh_s5, Mh_6, Mh_s6, Mh_7, Mh_s7, Mh_8, Mh_s8, Mh_9, Mh_s9, Mh_10, Mh_s10, Mh_11, Mh_s11, Mh_12, Mh_s12, Mh_13, Mh_s13, Mh_14, Mh_s14, Mh_15, Mh_s15, Mh_16, Mh_s16, Mh_17, Mh_s17, Mh_18, Mh_s18, Mh_19, Mh_s19, Mh_20, Mh_s20, Mh_21, Mh_s21, Mh_22, Mh_s22, Mh_23, Mh_s23, Mh_24, Mh_s24, Mh_p, bI_ft]
  refine q_c0 (Nat.le_refl _) (Nat.le_refl _) ?_
  refine c_Mo_glyphCount (d := dd + 4) R ?_
  rw [b_df _ (by have : 6 ≤ (t_mx F sz).2 := hm.1.1.2.1; omega)]
  simp -implicitDefEqProofs only [s_go, s_nil, s_cons, q_ins, s_op, s_i, s_j, s_a, s_v, s_li, s_lj, s_la, s_liO, s_ljO, s_laO, q_get, q_p1, q_p2, s_n2i, s_n2r, s_n2l, s_n2n, q_pad, q_ar, s_ob, s_obO, q_nth, s_ri, s_riO, s_rb, s_rbO, s_rzO, s_rl, s_rlO, s_rq, s_rqO, s_ry, s_ryO, s_dn, s_tl, s_tn, s_ap, s_an, s_ci, s_cr, s_ni, s_n0, s_n1, q_ags, q_cat, List.contains_nil, List.contains_cons, Nat.reduceBEq, Bool.or_false, Bool.false_or, Bool.true_or, Bool.false_eq_true, ↓reduceIte, Nat.le_refl, Nat.zero_le, true_and, and_true, Nat.reduceLeDiff, Nat.reduceAdd, Nat.add_zero, Nat.zero_add, List.length_cons, List.length_nil, List.set_cons_zero, List.set_cons_succ, Nat.reduceLT, s_fi, s_fl, s_fo, s_fa, s_f0, s_f1, s_set, s_ss, lg_cmp_ge, lg_cmp_le, lg_cmp_gt, lg_cmp_lt, lg_cmp_eq, s_brT, s_brF, s_10, w_Mo_load, r_Mo_load, l_Mo_load_0, l_Mo_load_28, l_Mo_load_36, l_Mo_load_46, l_Mo_load_60, l_Mo_load_74, l_Mo_load_88, l_Mo_load_90, l_Mo_load_116, l_Mo_load_118, l_Mo_load_160, kc_0, f_8_90, ty_8_0, f_8_105, ty_8_7, f_8_113, ty_8_6, ml_8_215, w_Mo_checkFile, kc_m1, ml_8_218, w_Mo_checkSums, kb_m2, ml_8_221, w_Mo_findTables, kb_m3, ml_8_224, w_Mo_checkForms, kb_m4, ml_8_227, w_Mo_checkGlyphs, kb_m5, f_8_94, f_8_13, f_8_7, kc_1, kb_7, f_8_19, kb_8, f_8_22, f_8_230, ty_8_4, ml_8_192, w_Mo_hasMap, f_8_233, ty_8_5, ml_8_175, w_Mo_glyphCount, Mh_y, Mh_1, Mh_s1, Mh_2, Mh_s2, Mh_3, Mh_s3, Mh_4, Mh_s4, Mh_5, Mh_s5, Mh_6, Mh_s6, Mh_7, Mh_s7, Mh_8, Mh_s8, Mh_9, Mh_s9, Mh_10, Mh_s10, Mh_11, Mh_s11, Mh_12, Mh_s12, Mh_13, Mh_s13, Mh_14, Mh_s14, Mh_15, Mh_s15, Mh_16, Mh_s16, Mh_17, Mh_s17, Mh_18, Mh_s18, Mh_19, Mh_s19, Mh_20, Mh_s20, Mh_21, Mh_s21, Mh_22, Mh_s22, Mh_23, Mh_s23, Mh_24, Mh_s24, Mh_p]
  exact hq
