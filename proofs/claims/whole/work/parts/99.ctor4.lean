/-! FontOutlines' constructor -/
/-- a new Font at o -/
def FoB (h : q_H) (o : Nat) : Prop := h o = some (e_Fo o 0 0 0 0) ∧ h (o + 1) = some (.inr (0, [.ref (o + 2), .int 0])) ∧ h (o + 2) = some (q_new 1 256) ∧ (∀ i, 3 ≤ i → i ≤ 11 → q_Ta h (o + i) (o + 1) 0 0) ∧ h (o + 12) = some (e_Cm (o + 5) 0 0 0)
theorem FoB.mono {h h' : q_H} {o : Nat} (hf : FoB h o) (hF : ∀ b, o ≤ b → b ≤ o + 12 → h' b = h b) : FoB h' o := by
  obtain ⟨a1, a2, a3, a4, a5⟩ := hf
  refine ⟨?_, ?_, ?_, fun i h1 h2 => ?_, ?_⟩
  · rw [hF _ (by omega) (by omega)]; exact a1
  · rw [hF _ (by omega) (by omega)]; exact a2
  · rw [hF _ (by omega) (by omega)]; exact a3
  · have := a4 i h1 h2
    unfold q_Ta at this ⊢
    rw [hF _ (by omega) (by omega)]; exact this
  · rw [hF _ (by omega) (by omega)]; exact a5
theorem OuA.mv {h h' : q_H} {u : Nat} (k : OuA h u) (e : ∀ b, u + 1 ≤ b → b ≤ u + 4 → h' b = h b) : OuA h' u := by
  obtain ⟨g1, g2, g3, g4, a1, a2, a3, a4⟩ := k
  unfold q_ar5 at a1 a2 a3 a4
  unfold OuA q_ar5
  exact ⟨g1, g2, g3, g4, by rw [e _ (by omega) (by omega)]; exact a1, by rw [e _ (by omega) (by omega)]; exact a2, by rw [e _ (by omega) (by omega)]; exact a3, by rw [e _ (by omega) (by omega)]; exact a4⟩
theorem OuJ.mv {h h' : q_H} {u : Nat} (k : OuJ h u) (e : ∀ b, u ≤ b → b ≤ u + 18 → h' b = h b) : OuJ h' u := by
  obtain ⟨⟨a, b, c, d, hO⟩, hA, hR⟩ := k
  exact ⟨⟨a, b, c, d, (e u (by omega) (by omega)).trans hO⟩, hA.mv fun b h1 h2 => e b (by omega) (by omega), hR.mv0 fun b h1 h2 => e b (by omega) h2⟩
set_option maxRecDepth 100000 in
set_option maxHeartbeats 4000000 in
theorem c_FO_init {G : q_G} {l : Launch} {d x : Nat} {h : q_H} {Q : q_P} (hO : h x = some (.inr (7, [.null, .null, .null, .null, .int 0, .int 0])))
    (hq : ∀ h', (∀ b, (b < x ∨ x + 47 < b) → h' b = h b) → h' x = some (.inr (7, [.ref (x + 1), .ref (x + 29), .ref (x + 3), .ref (x + 16), .int 0, .int (-1)])) → h' (x + 1) = some (.inr (0, [.ref (x + 2), .int 0])) → h' (x + 2) = some (q_new 1 256) → FoB h' (x + 3) → FoB h' (x + 16) → OuJ h' (x + 29) → Q none h' (x + 48)) : q_Call G l M_FO_init (d + 4) 47 3012 [.ref x] h (x + 1) Q := by
  have n1 : x ≠ x + 1 := by omega
  have n2 : x ≠ x + 2 := by omega
  have n3 : x ≠ x + 3 := by omega
  have n4 : x ≠ x + 16 := by omega
  have n5 : x ≠ x + 29 := by omega
  refine q_in u_FO_init (by rw [L_FO_init]; exact Nat.le_of_ble_eq_true rfl) ?_
  rw [L_FO_init]
  refine q_at o_FO_init [] 20 l_FO_init_0 ?_
  simp -implicitDefEqProofs only [s_go, s_nil, s_cons, q_ins, s_op, s_i, s_j, s_a, s_v, s_li, s_lj, s_la, s_liO, s_ljO, s_laO, q_get, q_p1, q_p2, s_n2i, s_n2r, s_n2l, s_n2n, q_pad, q_ar, s_ob, s_obO, q_nth, s_ri, s_riO, s_rb, s_rbO, s_rzO, s_rl, s_rlO, s_rq, s_rqO, s_ry, s_ryO, s_dn, s_tl, s_tn, s_ap, s_an, s_ci, s_cr, s_ni, s_n0, s_n1, q_ags, q_cat, List.contains_nil, List.contains_cons, Nat.reduceBEq, Bool.or_false, Bool.false_or, Bool.true_or, Bool.false_eq_true, ↓reduceIte, Nat.le_refl, Nat.zero_le, true_and, and_true, Nat.reduceLeDiff, Nat.reduceAdd, Nat.add_zero, Nat.zero_add, List.length_cons, List.length_nil, List.set_cons_zero, List.set_cons_succ, Nat.reduceLT, s_fi, s_fl, s_fo, s_fa, s_f0, s_f1, s_set, s_ss, lg_cmp_ge, lg_cmp_le, lg_cmp_gt, lg_cmp_lt, lg_cmp_eq, s_brT, s_brF, s_10, w_FO_init, r_FO_init, l_FO_init_0, oi_7_3, cn_7_9, ml_7_11, w_By_init, q_oi_no_7_11, f_7_12, ty_7_0, cn_7_16, ml_7_18, w_Fo_init, q_oi_no_7_18, f_7_19, ty_7_2, f_7_23, ty_7_3, cn_7_26, ml_7_28, w_Ou_init, q_oi_no_7_28, f_7_31, ty_7_1, kc_0, f_7_35, ty_7_4, kc_m1, f_7_39, ty_7_5, hO, k_cl0, k_z0, Nat.add_assoc]
  refine q_c1 1 256 (by decide) (by decide) ?_
  refine c_By_init (s_set _ _ _) (by omega) ?_
  simp -implicitDefEqProofs only [s_go, s_nil, s_cons, q_ins, s_op, s_i, s_j, s_a, s_v, s_li, s_lj, s_la, s_liO, s_ljO, s_laO, q_get, q_p1, q_p2, s_n2i, s_n2r, s_n2l, s_n2n, q_pad, q_ar, s_ob, s_obO, q_nth, s_ri, s_riO, s_rb, s_rbO, s_rzO, s_rl, s_rlO, s_rq, s_rqO, s_ry, s_ryO, s_dn, s_tl, s_tn, s_ap, s_an, s_ci, s_cr, s_ni, s_n0, s_n1, q_ags, q_cat, List.contains_nil, List.contains_cons, Nat.reduceBEq, Bool.or_false, Bool.false_or, Bool.true_or, Bool.false_eq_true, ↓reduceIte, Nat.le_refl, Nat.zero_le, true_and, and_true, Nat.reduceLeDiff, Nat.reduceAdd, Nat.add_zero, Nat.zero_add, List.length_cons, List.length_nil, List.set_cons_zero, List.set_cons_succ, Nat.reduceLT, s_fi, s_fl, s_fo, s_fa, s_f0, s_f1, s_set, s_ss, lg_cmp_ge, lg_cmp_le, lg_cmp_gt, lg_cmp_lt, lg_cmp_eq, s_brT, s_brF, s_10, w_FO_init, r_FO_init, l_FO_init_0, oi_7_3, cn_7_9, ml_7_11, w_By_init, q_oi_no_7_11, f_7_12, ty_7_0, cn_7_16, ml_7_18, w_Fo_init, q_oi_no_7_18, f_7_19, ty_7_2, f_7_23, ty_7_3, cn_7_26, ml_7_28, w_Ou_init, q_oi_no_7_28, f_7_31, ty_7_1, kc_0, f_7_35, ty_7_4, kc_m1, f_7_39, ty_7_5, hO, k_cl3, k_z3, Nat.add_assoc, s_ne _ _ n1, s_ne _ _ n2]
  refine q_c1 12 289 (by decide) (by decide) ?_
  refine c_Fo_init (s_set _ _ _) ?_
  intro h1 f1 a0 a1 a2 a3 a4
  have A1 : FoB h1 (x + 3) := ⟨a0, a1, a2, a3, a4⟩
  have b0 := f1 x (by omega)
  rw [s_ne _ _ n3, s_set] at b0
  simp -implicitDefEqProofs only [s_go, s_nil, s_cons, q_ins, s_op, s_i, s_j, s_a, s_v, s_li, s_lj, s_la, s_liO, s_ljO, s_laO, q_get, q_p1, q_p2, s_n2i, s_n2r, s_n2l, s_n2n, q_pad, q_ar, s_ob, s_obO, q_nth, s_ri, s_riO, s_rb, s_rbO, s_rzO, s_rl, s_rlO, s_rq, s_rqO, s_ry, s_ryO, s_dn, s_tl, s_tn, s_ap, s_an, s_ci, s_cr, s_ni, s_n0, s_n1, q_ags, q_cat, List.contains_nil, List.contains_cons, Nat.reduceBEq, Bool.or_false, Bool.false_or, Bool.true_or, Bool.false_eq_true, ↓reduceIte, Nat.le_refl, Nat.zero_le, true_and, and_true, Nat.reduceLeDiff, Nat.reduceAdd, Nat.add_zero, Nat.zero_add, List.length_cons, List.length_nil, List.set_cons_zero, List.set_cons_succ, Nat.reduceLT, s_fi, s_fl, s_fo, s_fa, s_f0, s_f1, s_set, s_ss, lg_cmp_ge, lg_cmp_le, lg_cmp_gt, lg_cmp_lt, lg_cmp_eq, s_brT, s_brF, s_10, w_FO_init, r_FO_init, l_FO_init_0, oi_7_3, cn_7_9, ml_7_11, w_By_init, q_oi_no_7_11, f_7_12, ty_7_0, cn_7_16, ml_7_18, w_Fo_init, q_oi_no_7_18, f_7_19, ty_7_2, f_7_23, ty_7_3, cn_7_26, ml_7_28, w_Ou_init, q_oi_no_7_28, f_7_31, ty_7_1, kc_0, f_7_35, ty_7_4, kc_m1, f_7_39, ty_7_5, b0, k_cl3, k_z3, Nat.add_assoc, s_ne _ _ n1, s_ne _ _ n2]
  refine q_c1 12 289 (by decide) (by decide) ?_
  refine c_Fo_init (s_set _ _ _) ?_
  intro h2 f2 a0 a1 a2 a3 a4
  have A2 : FoB h2 (x + 16) := ⟨a0, a1, a2, a3, a4⟩
  have b1 := f2 x (by omega)
  rw [s_ne _ _ n4, s_set] at b1
  simp -implicitDefEqProofs only [s_go, s_nil, s_cons, q_ins, s_op, s_i, s_j, s_a, s_v, s_li, s_lj, s_la, s_liO, s_ljO, s_laO, q_get, q_p1, q_p2, s_n2i, s_n2r, s_n2l, s_n2n, q_pad, q_ar, s_ob, s_obO, q_nth, s_ri, s_riO, s_rb, s_rbO, s_rzO, s_rl, s_rlO, s_rq, s_rqO, s_ry, s_ryO, s_dn, s_tl, s_tn, s_ap, s_an, s_ci, s_cr, s_ni, s_n0, s_n1, q_ags, q_cat, List.contains_nil, List.contains_cons, Nat.reduceBEq, Bool.or_false, Bool.false_or, Bool.true_or, Bool.false_eq_true, ↓reduceIte, Nat.le_refl, Nat.zero_le, true_and, and_true, Nat.reduceLeDiff, Nat.reduceAdd, Nat.add_zero, Nat.zero_add, List.length_cons, List.length_nil, List.set_cons_zero, List.set_cons_succ, Nat.reduceLT, s_fi, s_fl, s_fo, s_fa, s_f0, s_f1, s_set, s_ss, lg_cmp_ge, lg_cmp_le, lg_cmp_gt, lg_cmp_lt, lg_cmp_eq, s_brT, s_brF, s_10, w_FO_init, r_FO_init, l_FO_init_0, oi_7_3, cn_7_9, ml_7_11, w_By_init, q_oi_no_7_11, f_7_12, ty_7_0, cn_7_16, ml_7_18, w_Fo_init, q_oi_no_7_18, f_7_19, ty_7_2, f_7_23, ty_7_3, cn_7_26, ml_7_28, w_Ou_init, q_oi_no_7_28, f_7_31, ty_7_1, kc_0, f_7_35, ty_7_4, kc_m1, f_7_39, ty_7_5, b1, k_cl4, k_z4, Nat.add_assoc, s_ne _ _ n5]
  refine q_c1 18 2136 (by decide) (by decide) ?_
  refine c_Ou_init (s_set _ _ _) ?_
  intro h3 f3 A3
  have b2 := f3 x (by omega)
  rw [s_ne _ _ n5, s_set] at b2
  simp -implicitDefEqProofs only [s_go, s_nil, s_cons, q_ins, s_op, s_i, s_j, s_a, s_v, s_li, s_lj, s_la, s_liO, s_ljO, s_laO, q_get, q_p1, q_p2, s_n2i, s_n2r, s_n2l, s_n2n, q_pad, q_ar, s_ob, s_obO, q_nth, s_ri, s_riO, s_rb, s_rbO, s_rzO, s_rl, s_rlO, s_rq, s_rqO, s_ry, s_ryO, s_dn, s_tl, s_tn, s_ap, s_an, s_ci, s_cr, s_ni, s_n0, s_n1, q_ags, q_cat, List.contains_nil, List.contains_cons, Nat.reduceBEq, Bool.or_false, Bool.false_or, Bool.true_or, Bool.false_eq_true, ↓reduceIte, Nat.le_refl, Nat.zero_le, true_and, and_true, Nat.reduceLeDiff, Nat.reduceAdd, Nat.add_zero, Nat.zero_add, List.length_cons, List.length_nil, List.set_cons_zero, List.set_cons_succ, Nat.reduceLT, s_fi, s_fl, s_fo, s_fa, s_f0, s_f1, s_set, s_ss, lg_cmp_ge, lg_cmp_le, lg_cmp_gt, lg_cmp_lt, lg_cmp_eq, s_brT, s_brF, s_10, w_FO_init, r_FO_init, l_FO_init_0, oi_7_3, cn_7_9, ml_7_11, w_By_init, q_oi_no_7_11, f_7_12, ty_7_0, cn_7_16, ml_7_18, w_Fo_init, q_oi_no_7_18, f_7_19, ty_7_2, f_7_23, ty_7_3, cn_7_26, ml_7_28, w_Ou_init, q_oi_no_7_28, f_7_31, ty_7_1, kc_0, f_7_35, ty_7_4, kc_m1, f_7_39, ty_7_5, b2, Nat.add_assoc]
  have F3 : ∀ b, b ≠ x → (b < x + 29 ∨ x + 47 < b) → h3 b = h2 b := fun b e1 e2 => by rw [f3 b (by omega), s_ne _ _ (by omega), s_ne _ _ e1]
  have F2 : ∀ b, b ≠ x → (b < x + 16 ∨ x + 28 < b) → h2 b = h1 b := fun b e1 e2 => by rw [f2 b (by omega), s_ne _ _ (by omega), s_ne _ _ e1]
  have F1 : ∀ b, b ≠ x → b ≠ x + 1 → b ≠ x + 2 → (b < x + 3 ∨ x + 15 < b) → h1 b = h b := fun b e1 e2 e3 e4 => by rw [f1 b (by omega), s_ne _ _ (by omega), s_ne _ _ e1, s_ne _ _ e2, s_ne _ _ e3, s_ne _ _ e2]
  have c1 : h1 (x + 1) = some (.inr (0, [.ref (x + 2), .int 0])) := by rw [f1 _ (by omega), s_ne _ _ (by omega), s_ne _ _ (by omega), s_set]
  have c2 : h1 (x + 2) = some (q_new 1 256) := by rw [f1 _ (by omega), s_ne _ _ (by omega), s_ne _ _ (by omega), s_ne _ _ (by omega), s_set]
  refine hq _ (fun b hb => ?_) (s_set _ _ _) ?_ ?_ ?_ ?_ ?_
  · rw [s_ne _ _ (by omega), F3 b (by omega) (by omega), F2 b (by omega) (by omega), F1 b (by omega) (by omega) (by omega) (by omega)]
  · rw [s_ne _ _ (by omega), F3 _ (by omega) (by omega), F2 _ (by omega) (by omega)]; exact c1
  · rw [s_ne _ _ (by omega), F3 _ (by omega) (by omega), F2 _ (by omega) (by omega)]; exact c2
  · exact A1.mono fun b h1 h2 => by rw [s_ne _ _ (by omega), F3 b (by omega) (by omega), F2 b (by omega) (by omega)]
  · exact A2.mono fun b h1 h2 => by rw [s_ne _ _ (by omega), F3 b (by omega) (by omega)]
  · exact A3.mv fun b h1 h2 => by rw [s_ne _ _ (by omega)]
