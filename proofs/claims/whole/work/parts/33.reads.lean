/-! Outline.readGlyph, readsAll -/
set_option maxRecDepth 100000 in
set_option maxHeartbeats 4000000 in
theorem c_Ou_readGlyph {G : q_G} {l : Launch} {F : Nat → Nat} {d sz o row m n gg : Nat} {g : Nat → Int32} {u : Nat} {h : q_H} {Q : q_P} (hap : q_ap u o row) (hlo : (t_lo F sz).1 + (t_lo F sz).2 ≤ sz) (hgl : (t_gl F sz).1 + (t_gl F sz).2 ≤ sz) (hN : f_N F sz < 65536) (hPL : PL_ok F (f_LP F sz = 1) (t_lo F sz).1 (t_lo F sz).2 (t_gl F sz).2 (f_N F sz)) (hgg : gg < 70000) (hK : FoK h o F sz) (hB : q_By h (o + 1) row m g sz F) (hJ : OuJ h u)
    (q1 : ∀ L rg c' w, RD F sz 6 gg 0 = some (L, rg, c', w) → ∀ h' a1 a2 a3 a4, q_fO h h' u 0 → h' u = some (e_Ou u (nI L.length) (nI rg) (nI c') (nI w)) → OuG h' u a1 a2 a3 a4 → OuR h' u → q_PL a1 a2 a3 a4 0 0 L → Q (some (.int 1)) h' n)
    (q0 : RD F sz 6 gg 0 = none → ∀ h', q_fO h h' u 0 → OuJ h' u → Q (some (.int 0)) h' n) : q_Call G l M_Ou_readGlyph (d + 16) 0 0 [.ref u, .ref o, .int (nI gg)] h n Q := by
  have hF := hB.2.2.2.2.2.2
  obtain ⟨hap1, hap2⟩ := hap
  obtain ⟨⟨pts, cts, prd, wg, O1⟩, ⟨g1, g2, g3, g4, A1⟩, R1⟩ := hJ
  have O1' := O1
  unfold e_Ou at O1'
  obtain ⟨h1, hh1⟩ : ∃ x, x = q_set h u (e_Ou u 0 0 0 wg) := ⟨_, rfl⟩
  have O2 : h1 u = some (e_Ou u (nI 0) (nI 0) (nI 0) wg) := by rw [hh1]; exact s_set _ _ _
  have t1 : ∀ b, b ≠ u → h1 b = h b := fun b hb => by rw [hh1, s_ne _ _ hb]
  unfold e_Ou at hh1
  have O2' := O2
  unfold e_Ou at O2'
  refine q_in u_Ou_readGlyph (by rw [L_Ou_readGlyph]; exact Nat.le_of_ble_eq_true rfl) ?_
  rw [L_Ou_readGlyph]
  refine q_at o_Ou_readGlyph [] 20 l_Ou_readGlyph_0 ?_
  simp -implicitDefEqProofs only [s_go, s_nil, s_cons, q_ins, s_op, s_i, s_j, s_a, s_v, s_li, s_lj, s_la, s_liO, s_ljO, s_laO, q_get, q_p1, q_p2, s_n2i, s_n2r, s_n2l, s_n2n, q_pad, q_ar, s_ob, s_obO, q_nth, s_ri, s_riO, s_rb, s_rbO, s_rzO, s_rl, s_rlO, s_rq, s_rqO, s_ry, s_ryO, s_dn, s_tl, s_tn, s_ap, s_an, s_ci, s_cr, s_ni, s_n0, s_n1, q_ags, q_cat, List.contains_nil, List.contains_cons, Nat.reduceBEq, Bool.or_false, Bool.false_or, Bool.true_or, Bool.false_eq_true, ↓reduceIte, Nat.le_refl, Nat.zero_le, true_and, and_true, Nat.reduceLeDiff, Nat.reduceAdd, Nat.add_zero, Nat.zero_add, List.length_cons, List.length_nil, List.set_cons_zero, List.set_cons_succ, Nat.reduceLT, s_fi, s_fl, s_fo, s_fa, s_f0, s_f1, s_set, s_ss, lg_cmp_ge, lg_cmp_le, lg_cmp_gt, lg_cmp_lt, lg_cmp_eq, s_brT, s_brF, s_10, w_Ou_readGlyph, r_Ou_readGlyph, l_Ou_readGlyph_0, kc_0, f_4_50, ty_4_6, f_4_53, ty_4_7, f_4_56, ty_4_8, ml_4_59, w_Ou_addsGlyph, O1']
  rw [← hh1]
  refine q_c0 (Nat.le_refl _) (Nat.le_refl _) ?_
  refine AG_all ⟨hap1, hap2⟩ hlo hgl hN hPL 6 d 0 gg 0 0 0 n wg g1 g2 g3 g4 h1 _ (by omega) hgg (by omega) (by omega) (by omega) (hK.mv (fun b z1 z2 => t1 b (by omega))) (hB.mv (t1 _ (by omega)) (t1 _ (by omega))) O2 (OuG.mv A1 (fun b z1 z2 => t1 b (by omega))) (R1.mv0 (fun b z1 z2 => t1 b (by omega))) (fun L rg c' w hR hlen h2 a1 a2 a3 a4 f2 O3 G3 R3 L3 K3 => ?_) (fun hR h2 f2 J2 => ?_)
  · simp -implicitDefEqProofs only [s_go, s_nil, s_cons, q_ins, s_op, s_i, s_j, s_a, s_v, s_li, s_lj, s_la, s_liO, s_ljO, s_laO, q_get, q_p1, q_p2, s_n2i, s_n2r, s_n2l, s_n2n, q_pad, q_ar, s_ob, s_obO, q_nth, s_ri, s_riO, s_rb, s_rbO, s_rzO, s_rl, s_rlO, s_rq, s_rqO, s_ry, s_ryO, s_dn, s_tl, s_tn, s_ap, s_an, s_ci, s_cr, s_ni, s_n0, s_n1, q_ags, q_cat, List.contains_nil, List.contains_cons, Nat.reduceBEq, Bool.or_false, Bool.false_or, Bool.true_or, Bool.false_eq_true, ↓reduceIte, Nat.le_refl, Nat.zero_le, true_and, and_true, Nat.reduceLeDiff, Nat.reduceAdd, Nat.add_zero, Nat.zero_add, List.length_cons, List.length_nil, List.set_cons_zero, List.set_cons_succ, Nat.reduceLT, s_fi, s_fl, s_fo, s_fa, s_f0, s_f1, s_set, s_ss, lg_cmp_ge, lg_cmp_le, lg_cmp_gt, lg_cmp_lt, lg_cmp_eq, s_brT, s_brF, s_10, w_Ou_readGlyph, r_Ou_readGlyph, l_Ou_readGlyph_0, kc_0, f_4_50, ty_4_6, f_4_53, ty_4_7, f_4_56, ty_4_8, ml_4_59, w_Ou_addsGlyph]
    rw [Nat.zero_add, Nat.zero_add] at O3
    exact q1 L rg c' w hR h2 a1 a2 a3 a4 (fun b hb => (f2 b hb).trans (t1 b (by omega))) O3 G3 R3 L3
  · simp -implicitDefEqProofs only [s_go, s_nil, s_cons, q_ins, s_op, s_i, s_j, s_a, s_v, s_li, s_lj, s_la, s_liO, s_ljO, s_laO, q_get, q_p1, q_p2, s_n2i, s_n2r, s_n2l, s_n2n, q_pad, q_ar, s_ob, s_obO, q_nth, s_ri, s_riO, s_rb, s_rbO, s_rzO, s_rl, s_rlO, s_rq, s_rqO, s_ry, s_ryO, s_dn, s_tl, s_tn, s_ap, s_an, s_ci, s_cr, s_ni, s_n0, s_n1, q_ags, q_cat, List.contains_nil, List.contains_cons, Nat.reduceBEq, Bool.or_false, Bool.false_or, Bool.true_or, Bool.false_eq_true, ↓reduceIte, Nat.le_refl, Nat.zero_le, true_and, and_true, Nat.reduceLeDiff, Nat.reduceAdd, Nat.add_zero, Nat.zero_add, List.length_cons, List.length_nil, List.set_cons_zero, List.set_cons_succ, Nat.reduceLT, s_fi, s_fl, s_fo, s_fa, s_f0, s_f1, s_set, s_ss, lg_cmp_ge, lg_cmp_le, lg_cmp_gt, lg_cmp_lt, lg_cmp_eq, s_brT, s_brF, s_10, w_Ou_readGlyph, r_Ou_readGlyph, l_Ou_readGlyph_0, kc_0, f_4_50, ty_4_6, f_4_53, ty_4_7, f_4_56, ty_4_8, ml_4_59, w_Ou_addsGlyph]
    refine q0 ?_ h2 (fun b hb => (f2 b hb).trans (t1 b (by omega))) J2
    cases hh : RD F sz 6 gg 0 with
    | none => rfl
    | some x =>
      obtain ⟨L, rg, c', w⟩ := x
      have y1 := hR L rg c' w hh
      have y2 := (RD_b hF sz 6 gg 0 (by omega) _ _ _ _ hh).2.1
      omega
/-- every glyph can be read -/
def ALL_ok (F : Nat → Nat) (sz : Nat) : Prop := ∀ k, k < f_N F sz → RD F sz 6 k 0 ≠ none
set_option maxRecDepth 100000 in
set_option maxHeartbeats 4000000 in
theorem z_Ou_readsAll {G : q_G} {l : Launch} {F : Nat → Nat} {d sz o row m n : Nat} {g : Nat → Int32} {u : Nat} {h : q_H} {Q : q_P} (hap : q_ap u o row) (hlo : (t_lo F sz).1 + (t_lo F sz).2 ≤ sz) (hgl : (t_gl F sz).1 + (t_gl F sz).2 ≤ sz) (hN : f_N F sz < 65536) (hPL : PL_ok F (f_LP F sz = 1) (t_lo F sz).1 (t_lo F sz).2 (t_gl F sz).2 (f_N F sz)) (hK : FoK h o F sz) (hB : q_By h (o + 1) row m g sz F)
    (q1 : ALL_ok F sz → ∀ h', q_fO h h' u 0 → OuJ h' u → Q (some (.int 1)) h' n)
    (q0 : ¬ ALL_ok F sz → ∀ h', q_fO h h' u 0 → OuJ h' u → Q (some (.int 0)) h' n) : ∀ (r i : Nat) (h' : q_H), i + r = f_N F sz → (∀ k, k < i → RD F sz 6 k 0 ≠ none) → q_fO h h' u 0 → OuJ h' u → q_Z G l M_Ou_readsAll (d + 17) 0 0 Q 2 [some (.ref u), some (.ref o), some (.int (nI i))] [] h' n 0 0 := by
  have ap := hap
  obtain ⟨hap1, hap2⟩ := hap
  intro r
  induction r with
  | zero =>
    intro i h' hi hall f1 J1
    have hi : i = f_N F sz := by omega
    subst hi
    have K1 := (f1 o (by omega)).trans hK.1
    unfold e_Fo at K1
    refine q_at o_Ou_readsAll [2] 20 l_Ou_readsAll_2 ?_
    simp -implicitDefEqProofs only [s_go, s_nil, s_cons, q_ins, s_op, s_i, s_j, s_a, s_v, s_li, s_lj, s_la, s_liO, s_ljO, s_laO, q_get, q_p1, q_p2, s_n2i, s_n2r, s_n2l, s_n2n, q_pad, q_ar, s_ob, s_obO, q_nth, s_ri, s_riO, s_rb, s_rbO, s_rzO, s_rl, s_rlO, s_rq, s_rqO, s_ry, s_ryO, s_dn, s_tl, s_tn, s_ap, s_an, s_ci, s_cr, s_ni, s_n0, s_n1, q_ags, q_cat, List.contains_nil, List.contains_cons, Nat.reduceBEq, Bool.or_false, Bool.false_or, Bool.true_or, Bool.false_eq_true, ↓reduceIte, Nat.le_refl, Nat.zero_le, true_and, and_true, Nat.reduceLeDiff, Nat.reduceAdd, Nat.add_zero, Nat.zero_add, List.length_cons, List.length_nil, List.set_cons_zero, List.set_cons_succ, Nat.reduceLT, s_fi, s_fl, s_fo, s_fa, s_f0, s_f1, s_set, s_ss, lg_cmp_ge, lg_cmp_le, lg_cmp_gt, lg_cmp_lt, lg_cmp_eq, s_brT, s_brF, s_10, w_Ou_readsAll, r_Ou_readsAll, l_Ou_readsAll_0, l_Ou_readsAll_2, l_Ou_readsAll_21, l_Ou_readsAll_27, kc_0, f_4_40, ml_4_46, w_Ou_readGlyph, kc_1, K1]
    exact ⟨fun _ => q1 hall h' f1 J1, fun c => absurd (nI_le (Nat.le_refl _) (by omega)) c⟩
  | succ r ih =>
    intro i h' hi hall f1 J1
    have K1 : FoK h' o F sz := hK.mv (fun b z1 z2 => f1 b (by omega))
    have B1 : q_By h' (o + 1) row m g sz F := hB.mv (f1 _ (by omega)) (f1 _ (by omega))
    have K1' := K1.1
    unfold e_Fo at K1'
    obtain ⟨pts, cts, prd, wg, O1⟩ := J1.1
    unfold e_Ou at O1
    refine q_at o_Ou_readsAll [2] 20 l_Ou_readsAll_2 ?_
    simp -implicitDefEqProofs only [s_go, s_nil, s_cons, q_ins, s_op, s_i, s_j, s_a, s_v, s_li, s_lj, s_la, s_liO, s_ljO, s_laO, q_get, q_p1, q_p2, s_n2i, s_n2r, s_n2l, s_n2n, q_pad, q_ar, s_ob, s_obO, q_nth, s_ri, s_riO, s_rb, s_rbO, s_rzO, s_rl, s_rlO, s_rq, s_rqO, s_ry, s_ryO, s_dn, s_tl, s_tn, s_ap, s_an, s_ci, s_cr, s_ni, s_n0, s_n1, q_ags, q_cat, List.contains_nil, List.contains_cons, Nat.reduceBEq, Bool.or_false, Bool.false_or, Bool.true_or, Bool.false_eq_true, ↓reduceIte, Nat.le_refl, Nat.zero_le, true_and, and_true, Nat.reduceLeDiff, Nat.reduceAdd, Nat.add_zero, Nat.zero_add, List.length_cons, List.length_nil, List.set_cons_zero, List.set_cons_succ, Nat.reduceLT, s_fi, s_fl, s_fo, s_fa, s_f0, s_f1, s_set, s_ss, lg_cmp_ge, lg_cmp_le, lg_cmp_gt, lg_cmp_lt, lg_cmp_eq, s_brT, s_brF, s_10, w_Ou_readsAll, r_Ou_readsAll, l_Ou_readsAll_0, l_Ou_readsAll_2, l_Ou_readsAll_21, l_Ou_readsAll_27, kc_0, f_4_40, ml_4_46, w_Ou_readGlyph, kc_1, K1', O1]
    refine ⟨fun c => absurd ((nI_leI (by omega) (by omega)).mp c) (by omega), fun _ => ?_⟩
    refine q_c0 (Nat.le_refl _) (Nat.le_refl _) ?_
    refine c_Ou_readGlyph ap hlo hgl hN hPL (by omega) K1 B1 J1 (fun L rg c' w hR h2 a1 a2 a3 a4 f2 O2 G2 R2 L2 => ?_) (fun hR h2 f2 J2 => ?_)
    · simp -implicitDefEqProofs only [s_go, s_nil, s_cons, q_ins, s_op, s_i, s_j, s_a, s_v, s_li, s_lj, s_la, s_liO, s_ljO, s_laO, q_get, q_p1, q_p2, s_n2i, s_n2r, s_n2l, s_n2n, q_pad, q_ar, s_ob, s_obO, q_nth, s_ri, s_riO, s_rb, s_rbO, s_rzO, s_rl, s_rlO, s_rq, s_rqO, s_ry, s_ryO, s_dn, s_tl, s_tn, s_ap, s_an, s_ci, s_cr, s_ni, s_n0, s_n1, q_ags, q_cat, List.contains_nil, List.contains_cons, Nat.reduceBEq, Bool.or_false, Bool.false_or, Bool.true_or, Bool.false_eq_true, ↓reduceIte, Nat.le_refl, Nat.zero_le, true_and, and_true, Nat.reduceLeDiff, Nat.reduceAdd, Nat.add_zero, Nat.zero_add, List.length_cons, List.length_nil, List.set_cons_zero, List.set_cons_succ, Nat.reduceLT, s_fi, s_fl, s_fo, s_fa, s_f0, s_f1, s_set, s_ss, lg_cmp_ge, lg_cmp_le, lg_cmp_gt, lg_cmp_lt, lg_cmp_eq, s_brT, s_brF, s_10, w_Ou_readsAll, r_Ou_readsAll, l_Ou_readsAll_0, l_Ou_readsAll_2, l_Ou_readsAll_21, l_Ou_readsAll_27, kc_0, f_4_40, ml_4_46, w_Ou_readGlyph, kc_1, nI_1]
      exact ih (i + 1) h2 (by omega) (fun k hk => by
        rcases Nat.lt_or_ge k i with y | y
        · exact hall k y
        · have : k = i := by omega
          subst this
          rw [hR]
          exact fun z => by cases z) (fun b hb => (f2 b hb).trans (f1 b hb)) ⟨⟨_, _, _, _, O2⟩, G2.A, R2⟩
    · simp -implicitDefEqProofs only [s_go, s_nil, s_cons, q_ins, s_op, s_i, s_j, s_a, s_v, s_li, s_lj, s_la, s_liO, s_ljO, s_laO, q_get, q_p1, q_p2, s_n2i, s_n2r, s_n2l, s_n2n, q_pad, q_ar, s_ob, s_obO, q_nth, s_ri, s_riO, s_rb, s_rbO, s_rzO, s_rl, s_rlO, s_rq, s_rqO, s_ry, s_ryO, s_dn, s_tl, s_tn, s_ap, s_an, s_ci, s_cr, s_ni, s_n0, s_n1, q_ags, q_cat, List.contains_nil, List.contains_cons, Nat.reduceBEq, Bool.or_false, Bool.false_or, Bool.true_or, Bool.false_eq_true, ↓reduceIte, Nat.le_refl, Nat.zero_le, true_and, and_true, Nat.reduceLeDiff, Nat.reduceAdd, Nat.add_zero, Nat.zero_add, List.length_cons, List.length_nil, List.set_cons_zero, List.set_cons_succ, Nat.reduceLT, s_fi, s_fl, s_fo, s_fa, s_f0, s_f1, s_set, s_ss, lg_cmp_ge, lg_cmp_le, lg_cmp_gt, lg_cmp_lt, lg_cmp_eq, s_brT, s_brF, s_10, w_Ou_readsAll, r_Ou_readsAll, l_Ou_readsAll_0, l_Ou_readsAll_2, l_Ou_readsAll_21, l_Ou_readsAll_27, kc_0, f_4_40, ml_4_46, w_Ou_readGlyph, kc_1]
      exact q0 (fun z => z i (by omega) hR) h2 (fun b hb => (f2 b hb).trans (f1 b hb)) J2
set_option maxRecDepth 100000 in
set_option maxHeartbeats 4000000 in
theorem c_Ou_readsAll {G : q_G} {l : Launch} {F : Nat → Nat} {d sz o row m n : Nat} {g : Nat → Int32} {u : Nat} {h : q_H} {Q : q_P} (hap : q_ap u o row) (hlo : (t_lo F sz).1 + (t_lo F sz).2 ≤ sz) (hgl : (t_gl F sz).1 + (t_gl F sz).2 ≤ sz) (hN : f_N F sz < 65536) (hPL : PL_ok F (f_LP F sz = 1) (t_lo F sz).1 (t_lo F sz).2 (t_gl F sz).2 (f_N F sz)) (hK : FoK h o F sz) (hB : q_By h (o + 1) row m g sz F) (hJ : OuJ h u)
    (q1 : ALL_ok F sz → ∀ h', q_fO h h' u 0 → OuJ h' u → Q (some (.int 1)) h' n)
    (q0 : ¬ ALL_ok F sz → ∀ h', q_fO h h' u 0 → OuJ h' u → Q (some (.int 0)) h' n) : q_Call G l M_Ou_readsAll (d + 17) 0 0 [.ref u, .ref o] h n Q := by
  refine q_in u_Ou_readsAll (by rw [L_Ou_readsAll]; exact Nat.le_of_ble_eq_true rfl) ?_
  rw [L_Ou_readsAll]
  refine q_at o_Ou_readsAll [2] 20 l_Ou_readsAll_0 ?_
  simp -implicitDefEqProofs only [s_go, s_nil, s_cons, q_ins, s_op, s_i, s_j, s_a, s_v, s_li, s_lj, s_la, s_liO, s_ljO, s_laO, q_get, q_p1, q_p2, s_n2i, s_n2r, s_n2l, s_n2n, q_pad, q_ar, s_ob, s_obO, q_nth, s_ri, s_riO, s_rb, s_rbO, s_rzO, s_rl, s_rlO, s_rq, s_rqO, s_ry, s_ryO, s_dn, s_tl, s_tn, s_ap, s_an, s_ci, s_cr, s_ni, s_n0, s_n1, q_ags, q_cat, List.contains_nil, List.contains_cons, Nat.reduceBEq, Bool.or_false, Bool.false_or, Bool.true_or, Bool.false_eq_true, ↓reduceIte, Nat.le_refl, Nat.zero_le, true_and, and_true, Nat.reduceLeDiff, Nat.reduceAdd, Nat.add_zero, Nat.zero_add, List.length_cons, List.length_nil, List.set_cons_zero, List.set_cons_succ, Nat.reduceLT, s_fi, s_fl, s_fo, s_fa, s_f0, s_f1, s_set, s_ss, lg_cmp_ge, lg_cmp_le, lg_cmp_gt, lg_cmp_lt, lg_cmp_eq, s_brT, s_brF, s_10, w_Ou_readsAll, r_Ou_readsAll, l_Ou_readsAll_0, l_Ou_readsAll_2, l_Ou_readsAll_21, l_Ou_readsAll_27, kc_0, f_4_40, ml_4_46, w_Ou_readGlyph, kc_1]
  exact z_Ou_readsAll hap hlo hgl hN hPL hK hB q1 q0 (f_N F sz) 0 h (by omega) (fun k hk => absurd hk (by omega)) (fun _ _ => rfl) hJ
