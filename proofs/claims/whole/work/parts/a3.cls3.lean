/-! FontOutlines: load -/
def ROW (n x r : Nat) : Prop := r < n ∧ (r = x + 2 ∨ r = x + 5 ∨ r = x + 18 ∨ x + 73 < r)
/-- what a load leaves -/
def LDP (h h' : q_H) (n x spa rs row' m' : Nat) (g' : Nat → Int32) (F : Nat → Nat) (sz : Nat) : Prop := (∀ b, b < n → b ≠ x → b ≠ rs → (b < spa ∨ spa + 12 < b) → (b < x + 29 ∨ x + 47 < b) → h' b = h b) ∧ q_By h' (spa + 1) row' m' g' sz F ∧ q_Ta h' (spa + 3) (spa + 1) 0 sz ∧ FoJ h' spa ∧ OuJ h' (x + 29)
theorem RIGHT.fnt {F : Nat → Nat} {sz : Nat} {ch : Bool} (r : RIGHT F sz ch) : FNT F sz := ⟨r.1, r.2.2.1, r.2.2.2⟩
set_option maxRecDepth 100000 in
set_option maxHeartbeats 4000000 in
theorem c_FO_load {G : q_G} {l : Launch} {d x cur spa ra ma sz rs ms ss st ln n : Nat} {ld0 sh0 : Int32} {ga gs : Nat → Int32} {F Fs : Nat → Nat} {h : q_H} {Q : q_P} {ch : Bool} (hO : h x = some (.inr (7, [.ref (x + 1), .ref (x + 29), .ref cur, .ref spa, .int ld0, .int sh0]))) (hsp : spa = x + 3 ∨ spa = x + 16) (hB : q_By h (x + 1) ra ma ga sz F) (hS : q_By h (spa + 1) rs ms gs ss Fs) (hW : q_Ta h (spa + 3) (spa + 1) st ln) (hJ : FoJ h spa) (hU : OuJ h (x + 29)) (hra : ROW n x ra) (hrs : ROW n x rs) (hne : rs ≠ ra) (hn : x + 73 < n)
    (q1 : ∀ y, WRONG F sz ch y → ∀ h' g' row', (row' = rs ∨ n ≤ row') → row' < n + GC ms sz → LDP h h' n x spa rs row' (GL ms sz) g' F sz → h' x = some (.inr (7, [.ref (x + 1), .ref (x + 29), .ref cur, .ref spa, .int ld0, .int (-1)])) → Q (some (.int y)) h' (n + GC ms sz))
    (q2 : RIGHT F sz ch → ¬ ALL_ok F sz → ∀ h' g' row', (row' = rs ∨ n ≤ row') → row' < n + GC ms sz → LDP h h' n x spa rs row' (GL ms sz) g' F sz → h' x = some (.inr (7, [.ref (x + 1), .ref (x + 29), .ref cur, .ref spa, .int ld0, .int (-1)])) → Q (some (.int (-5))) h' (n + GC ms sz))
    (q0 : RIGHT F sz ch → ALL_ok F sz → ∀ h' g' row', (row' = rs ∨ n ≤ row') → row' < n + GC ms sz → LDP h h' n x spa rs row' (GL ms sz) g' F sz → FoK h' spa F sz → h' x = some (.inr (7, [.ref (x + 1), .ref (x + 29), .ref spa, .ref cur, .int 1, .int (-1)])) → Q (some (.int (nI (f_N F sz)))) h' (n + GC ms sz)) : q_Call G l M_FO_load (d + 18) (GC ms sz) (GS ms sz) [.ref x, .int (if ch = true then 1 else 0)] h n Q := by
  obtain ⟨⟨em, gl, wd, lp, hF0, -⟩, -, -⟩ := id hJ
  have hF1 := hF0
  unfold e_Fo at hF1
  have nsx : spa ≠ x := by omega
  have nra : ra ≠ x := hB.ne hO
  have nrs : rs ≠ x := hS.ne hO
  have e1 := hrs.1
  have e2 := hrs.2
  have e3 := hra.1
  have e4 := hra.2
  have hB1 := hB.1
  refine q_in u_FO_load (by rw [L_FO_load]; exact Nat.le_of_ble_eq_true rfl) ?_
  rw [L_FO_load]
  refine q_at o_FO_load [31, 48] 20 l_FO_load_0 ?_
  simp -implicitDefEqProofs only [s_go, s_nil, s_cons, q_ins, s_op, s_i, s_j, s_a, s_v, s_li, s_lj, s_la, s_liO, s_ljO, s_laO, q_get, q_p1, q_p2, s_n2i, s_n2r, s_n2l, s_n2n, q_pad, q_ar, s_ob, s_obO, q_nth, s_ri, s_riO, s_rb, s_rbO, s_rzO, s_rl, s_rlO, s_rq, s_rqO, s_ry, s_ryO, s_dn, s_tl, s_tn, s_ap, s_an, s_ci, s_cr, s_ni, s_n0, s_n1, q_ags, q_cat, List.contains_nil, List.contains_cons, Nat.reduceBEq, Bool.or_false, Bool.false_or, Bool.true_or, Bool.false_eq_true, ↓reduceIte, Nat.le_refl, Nat.zero_le, true_and, and_true, Nat.reduceLeDiff, Nat.reduceAdd, Nat.add_zero, Nat.zero_add, List.length_cons, List.length_nil, List.set_cons_zero, List.set_cons_succ, Nat.reduceLT, s_fi, s_fl, s_fo, s_fa, s_f0, s_f1, s_set, s_ss, lg_cmp_ge, lg_cmp_le, lg_cmp_gt, lg_cmp_lt, lg_cmp_eq, s_brT, s_brF, s_10, w_FO_load, r_FO_load, l_FO_load_0, l_FO_load_31, l_FO_load_48, kc_m1, f_7_39, ty_7_5, f_7_23, f_7_12, ml_7_75, w_Fo_takeFile, ml_7_78, w_Fo_firstWrong, f_7_31, ml_7_82, w_Ou_readsAll, kb_m5, f_7_19, ty_7_2, ty_7_3, kc_1, f_7_35, ty_7_4, f_7_86, hO, hF1, hB1, s_ne _ _ nsx, s_ne _ _ (show x + 1 ≠ x by omega)]
  obtain ⟨h0, hh0⟩ : ∃ h0, h0 = q_set h x (.inr (7, [.ref (x + 1), .ref (x + 29), .ref cur, .ref spa, .int ld0, .int (-1)])) := ⟨_, rfl⟩
  rw [← hh0]
  have t0 : ∀ b, b ≠ x → h0 b = h b := fun b hb => by rw [hh0]; exact s_ne _ _ hb
  have o0 : h0 x = some (.inr (7, [.ref (x + 1), .ref (x + 29), .ref cur, .ref spa, .int ld0, .int (-1)])) := by rw [hh0, s_set]
  clear hh0
  refine q_c1 (GC ms sz) (GS ms sz) (by rw [Nat.zero_add]; exact Nat.le_refl _) (by rw [Nat.zero_add]; exact Nat.le_refl _) ?_
  refine c_Fo_takeFile (d := d + 13) (f2 := x + 1) ((t0 spa nsx).trans hF0) ((t0 _ (by omega)).trans hW) (hS.mv (t0 _ (by omega)) (t0 _ nrs)) (hB.mv (t0 _ (by omega)) (t0 _ nra)) (by omega) hne (by omega) (by omega) (by omega) (by omega) ?_
  intro h1 g1 r1 p1 p2 t1 W1 B1
  have o1 : h1 x = _ := (t1 x (by omega) (by omega) (by omega) (by omega)).trans o0
  have F1 : h1 spa = _ := ((t1 spa (by omega) (by omega) (by omega) (by omega)).trans (t0 spa nsx)).trans hF1
  have J1 : FoJ h1 spa := hJ.cp fun b hb => (t1 b (by omega) (by omega) (by omega) (by omega)).trans (t0 b (by omega))
  simp -implicitDefEqProofs only [s_go, s_nil, s_cons, q_ins, s_op, s_i, s_j, s_a, s_v, s_li, s_lj, s_la, s_liO, s_ljO, s_laO, q_get, q_p1, q_p2, s_n2i, s_n2r, s_n2l, s_n2n, q_pad, q_ar, s_ob, s_obO, q_nth, s_ri, s_riO, s_rb, s_rbO, s_rzO, s_rl, s_rlO, s_rq, s_rqO, s_ry, s_ryO, s_dn, s_tl, s_tn, s_ap, s_an, s_ci, s_cr, s_ni, s_n0, s_n1, q_ags, q_cat, List.contains_nil, List.contains_cons, Nat.reduceBEq, Bool.or_false, Bool.false_or, Bool.true_or, Bool.false_eq_true, ↓reduceIte, Nat.le_refl, Nat.zero_le, true_and, and_true, Nat.reduceLeDiff, Nat.reduceAdd, Nat.add_zero, Nat.zero_add, List.length_cons, List.length_nil, List.set_cons_zero, List.set_cons_succ, Nat.reduceLT, s_fi, s_fl, s_fo, s_fa, s_f0, s_f1, s_set, s_ss, lg_cmp_ge, lg_cmp_le, lg_cmp_gt, lg_cmp_lt, lg_cmp_eq, s_brT, s_brF, s_10, w_FO_load, r_FO_load, l_FO_load_0, l_FO_load_31, l_FO_load_48, kc_m1, f_7_39, ty_7_5, f_7_23, f_7_12, ml_7_75, w_Fo_takeFile, ml_7_78, w_Fo_firstWrong, f_7_31, ml_7_82, w_Ou_readsAll, kb_m5, f_7_19, ty_7_2, ty_7_3, kc_1, f_7_35, ty_7_4, f_7_86, o1, F1]
  refine q_c0 (Nat.le_refl _) (Nat.le_refl _) ?_
  have r1b : r1 ≠ x ∧ (r1 < spa + 4 ∨ spa + 12 < r1) ∧ r1 ≠ spa ∧ (r1 < x + 29 ∨ x + 47 < r1) := by
    rcases p1 with q | q
    · subst q; omega
    · omega
  refine c_Fo_firstWrong (d := d + 12) J1 W1 B1 (fun y hw h2 t2 J2 => ?_) (fun hr h2 t2 J2 K2 => ?_)
  · have o2 := (t2 x (by omega) (by omega)).trans o1
    have B2 : q_By h2 (spa + 1) r1 (GL ms sz) g1 sz F := B1.mv (t2 _ (by omega) (by omega)) (t2 _ (by omega) (by omega))
    have W2 : q_Ta h2 (spa + 3) (spa + 1) 0 sz := (t2 _ (by omega) (by omega)).trans W1
    have U2 : OuJ h2 (x + 29) := hU.mv fun b b1 b2 => ((t2 b (by omega) (by omega)).trans (t1 b (by omega) (by omega) (by omega) (by omega))).trans (t0 b (by omega))
    have y0 : (y = 0) = False := eq_false fun e => by
      subst e
      rcases hw with w | w | w | w
      · exact absurd w.2 (by decide)
      · exact absurd w.2.2.2 (by decide)
      · exact absurd w.2.2.2 (by decide)
      · exact absurd w.2.2.2.2 (by decide)
    simp -implicitDefEqProofs only [s_go, s_nil, s_cons, q_ins, s_op, s_i, s_j, s_a, s_v, s_li, s_lj, s_la, s_liO, s_ljO, s_laO, q_get, q_p1, q_p2, s_n2i, s_n2r, s_n2l, s_n2n, q_pad, q_ar, s_ob, s_obO, q_nth, s_ri, s_riO, s_rb, s_rbO, s_rzO, s_rl, s_rlO, s_rq, s_rqO, s_ry, s_ryO, s_dn, s_tl, s_tn, s_ap, s_an, s_ci, s_cr, s_ni, s_n0, s_n1, q_ags, q_cat, List.contains_nil, List.contains_cons, Nat.reduceBEq, Bool.or_false, Bool.false_or, Bool.true_or, Bool.false_eq_true, ↓reduceIte, Nat.le_refl, Nat.zero_le, true_and, and_true, Nat.reduceLeDiff, Nat.reduceAdd, Nat.add_zero, Nat.zero_add, List.length_cons, List.length_nil, List.set_cons_zero, List.set_cons_succ, Nat.reduceLT, s_fi, s_fl, s_fo, s_fa, s_f0, s_f1, s_set, s_ss, lg_cmp_ge, lg_cmp_le, lg_cmp_gt, lg_cmp_lt, lg_cmp_eq, s_brT, s_brF, s_10, w_FO_load, r_FO_load, l_FO_load_0, l_FO_load_31, l_FO_load_48, kc_m1, f_7_39, ty_7_5, f_7_23, f_7_12, ml_7_75, w_Fo_takeFile, ml_7_78, w_Fo_firstWrong, f_7_31, ml_7_82, w_Ou_readsAll, kb_m5, f_7_19, ty_7_2, ty_7_3, kc_1, f_7_35, ty_7_4, f_7_86, y0]
    exact q1 y hw h2 g1 r1 p1 p2 ⟨fun b b1 b2 b3 b4 b5 => ((t2 b (by omega) (by omega)).trans (t1 b b1 (by omega) (by omega) (by omega))).trans (t0 b b2), B2, W2, J2, U2⟩ o2
  · have o2 := (t2 x (by omega) (by omega)).trans o1
    have B2 : q_By h2 (spa + 1) r1 (GL ms sz) g1 sz F := B1.mv (t2 _ (by omega) (by omega)) (t2 _ (by omega) (by omega))
    have W2 : q_Ta h2 (spa + 3) (spa + 1) 0 sz := (t2 _ (by omega) (by omega)).trans W1
    have U2 : OuJ h2 (x + 29) := hU.mv fun b b1 b2 => ((t2 b (by omega) (by omega)).trans (t1 b (by omega) (by omega) (by omega) (by omega))).trans (t0 b (by omega))
    obtain ⟨⟨u1, u2, u3, u4, ou⟩, -, -⟩ := id U2
    unfold e_Ou at ou
    simp -implicitDefEqProofs only [s_go, s_nil, s_cons, q_ins, s_op, s_i, s_j, s_a, s_v, s_li, s_lj, s_la, s_liO, s_ljO, s_laO, q_get, q_p1, q_p2, s_n2i, s_n2r, s_n2l, s_n2n, q_pad, q_ar, s_ob, s_obO, q_nth, s_ri, s_riO, s_rb, s_rbO, s_rzO, s_rl, s_rlO, s_rq, s_rqO, s_ry, s_ryO, s_dn, s_tl, s_tn, s_ap, s_an, s_ci, s_cr, s_ni, s_n0, s_n1, q_ags, q_cat, List.contains_nil, List.contains_cons, Nat.reduceBEq, Bool.or_false, Bool.false_or, Bool.true_or, Bool.false_eq_true, ↓reduceIte, Nat.le_refl, Nat.zero_le, true_and, and_true, Nat.reduceLeDiff, Nat.reduceAdd, Nat.add_zero, Nat.zero_add, List.length_cons, List.length_nil, List.set_cons_zero, List.set_cons_succ, Nat.reduceLT, s_fi, s_fl, s_fo, s_fa, s_f0, s_f1, s_set, s_ss, lg_cmp_ge, lg_cmp_le, lg_cmp_gt, lg_cmp_lt, lg_cmp_eq, s_brT, s_brF, s_10, w_FO_load, r_FO_load, l_FO_load_0, l_FO_load_31, l_FO_load_48, kc_m1, f_7_39, ty_7_5, f_7_23, f_7_12, ml_7_75, w_Fo_takeFile, ml_7_78, w_Fo_firstWrong, f_7_31, ml_7_82, w_Ou_readsAll, kb_m5, f_7_19, ty_7_2, ty_7_3, kc_1, f_7_35, ty_7_4, f_7_86]
    refine q_at o_FO_load [48] 20 l_FO_load_31 ?_
    simp -implicitDefEqProofs only [s_go, s_nil, s_cons, q_ins, s_op, s_i, s_j, s_a, s_v, s_li, s_lj, s_la, s_liO, s_ljO, s_laO, q_get, q_p1, q_p2, s_n2i, s_n2r, s_n2l, s_n2n, q_pad, q_ar, s_ob, s_obO, q_nth, s_ri, s_riO, s_rb, s_rbO, s_rzO, s_rl, s_rlO, s_rq, s_rqO, s_ry, s_ryO, s_dn, s_tl, s_tn, s_ap, s_an, s_ci, s_cr, s_ni, s_n0, s_n1, q_ags, q_cat, List.contains_nil, List.contains_cons, Nat.reduceBEq, Bool.or_false, Bool.false_or, Bool.true_or, Bool.false_eq_true, ↓reduceIte, Nat.le_refl, Nat.zero_le, true_and, and_true, Nat.reduceLeDiff, Nat.reduceAdd, Nat.add_zero, Nat.zero_add, List.length_cons, List.length_nil, List.set_cons_zero, List.set_cons_succ, Nat.reduceLT, s_fi, s_fl, s_fo, s_fa, s_f0, s_f1, s_set, s_ss, lg_cmp_ge, lg_cmp_le, lg_cmp_gt, lg_cmp_lt, lg_cmp_eq, s_brT, s_brF, s_10, w_FO_load, r_FO_load, l_FO_load_0, l_FO_load_31, l_FO_load_48, kc_m1, f_7_39, ty_7_5, f_7_23, f_7_12, ml_7_75, w_Fo_takeFile, ml_7_78, w_Fo_firstWrong, f_7_31, ml_7_82, w_Ou_readsAll, kb_m5, f_7_19, ty_7_2, ty_7_3, kc_1, f_7_35, ty_7_4, f_7_86, o2, ou]
    refine q_c0 (Nat.le_refl _) (Nat.le_refl _) ?_
    have f := hr.fnt
    have hN : f_N F sz ≤ 256 := f.2.2.1.2.2.2.2.2.1
    refine c_Ou_readsAll (d := d) ⟨by omega, r1b.2.2.2⟩ (TB_in f.1 5) (TB_in f.1 1) (by omega) f.2.2.2.1 K2 B2 U2 (fun al h3 t3 U3 => ?_) (fun al h3 t3 U3 => ?_)
    · have t3' : ∀ b, (b < x + 29 ∨ x + 47 < b) → h3 b = h2 b := fun b hb => t3 b (by omega)
      have o3 := (t3' x (by omega)).trans o2
      have B3 : q_By h3 (spa + 1) r1 (GL ms sz) g1 sz F := B2.mv (t3' _ (by omega)) (t3' _ (by omega))
      have K3 : FoK h3 spa F sz := K2.mv fun b b1 b2 => t3' b (by omega)
      have ok := K3.1
      unfold e_Fo at ok
      simp -implicitDefEqProofs only [s_go, s_nil, s_cons, q_ins, s_op, s_i, s_j, s_a, s_v, s_li, s_lj, s_la, s_liO, s_ljO, s_laO, q_get, q_p1, q_p2, s_n2i, s_n2r, s_n2l, s_n2n, q_pad, q_ar, s_ob, s_obO, q_nth, s_ri, s_riO, s_rb, s_rbO, s_rzO, s_rl, s_rlO, s_rq, s_rqO, s_ry, s_ryO, s_dn, s_tl, s_tn, s_ap, s_an, s_ci, s_cr, s_ni, s_n0, s_n1, q_ags, q_cat, List.contains_nil, List.contains_cons, Nat.reduceBEq, Bool.or_false, Bool.false_or, Bool.true_or, Bool.false_eq_true, ↓reduceIte, Nat.le_refl, Nat.zero_le, true_and, and_true, Nat.reduceLeDiff, Nat.reduceAdd, Nat.add_zero, Nat.zero_add, List.length_cons, List.length_nil, List.set_cons_zero, List.set_cons_succ, Nat.reduceLT, s_fi, s_fl, s_fo, s_fa, s_f0, s_f1, s_set, s_ss, lg_cmp_ge, lg_cmp_le, lg_cmp_gt, lg_cmp_lt, lg_cmp_eq, s_brT, s_brF, s_10, w_FO_load, r_FO_load, l_FO_load_0, l_FO_load_31, l_FO_load_48, kc_m1, f_7_39, ty_7_5, f_7_23, f_7_12, ml_7_75, w_Fo_takeFile, ml_7_78, w_Fo_firstWrong, f_7_31, ml_7_82, w_Ou_readsAll, kb_m5, f_7_19, ty_7_2, ty_7_3, kc_1, f_7_35, ty_7_4, f_7_86]
      refine q_at o_FO_load [] 20 l_FO_load_48 ?_
      simp -implicitDefEqProofs only [s_go, s_nil, s_cons, q_ins, s_op, s_i, s_j, s_a, s_v, s_li, s_lj, s_la, s_liO, s_ljO, s_laO, q_get, q_p1, q_p2, s_n2i, s_n2r, s_n2l, s_n2n, q_pad, q_ar, s_ob, s_obO, q_nth, s_ri, s_riO, s_rb, s_rbO, s_rzO, s_rl, s_rlO, s_rq, s_rqO, s_ry, s_ryO, s_dn, s_tl, s_tn, s_ap, s_an, s_ci, s_cr, s_ni, s_n0, s_n1, q_ags, q_cat, List.contains_nil, List.contains_cons, Nat.reduceBEq, Bool.or_false, Bool.false_or, Bool.true_or, Bool.false_eq_true, ↓reduceIte, Nat.le_refl, Nat.zero_le, true_and, and_true, Nat.reduceLeDiff, Nat.reduceAdd, Nat.add_zero, Nat.zero_add, List.length_cons, List.length_nil, List.set_cons_zero, List.set_cons_succ, Nat.reduceLT, s_fi, s_fl, s_fo, s_fa, s_f0, s_f1, s_set, s_ss, lg_cmp_ge, lg_cmp_le, lg_cmp_gt, lg_cmp_lt, lg_cmp_eq, s_brT, s_brF, s_10, w_FO_load, r_FO_load, l_FO_load_0, l_FO_load_31, l_FO_load_48, kc_m1, f_7_39, ty_7_5, f_7_23, f_7_12, ml_7_75, w_Fo_takeFile, ml_7_78, w_Fo_firstWrong, f_7_31, ml_7_82, w_Ou_readsAll, kb_m5, f_7_19, ty_7_2, ty_7_3, kc_1, f_7_35, ty_7_4, f_7_86, o3, ok, s_ne _ _ nsx]
      refine q0 hr al _ g1 r1 p1 p2 ⟨fun b b1 b2 b3 b4 b5 => ?_, B3.mv (s_ne _ _ (by omega)) (s_ne _ _ r1b.1), (s_ne _ _ (by omega)).trans ((t3' _ (by omega)).trans W2), J2.cp fun b hb => ?_, U3.mv fun b b1 b2 => s_ne _ _ (by omega)⟩ (K3.mv fun b b1 b2 => s_ne _ _ (by omega)) (s_set _ _ _)
      · rw [s_ne _ _ b2]
        exact (t3' b b5).trans (((t2 b (by omega) (by omega)).trans (t1 b b1 (by omega) (by omega) (by omega))).trans (t0 b b2))
      · rw [s_ne _ _ (by omega)]; exact t3' b (by omega)
    · have t3' : ∀ b, (b < x + 29 ∨ x + 47 < b) → h3 b = h2 b := fun b hb => t3 b (by omega)
      have o3 := (t3' x (by omega)).trans o2
      have B3 : q_By h3 (spa + 1) r1 (GL ms sz) g1 sz F := B2.mv (t3' _ (by omega)) (t3' _ (by omega))
      simp -implicitDefEqProofs only [s_go, s_nil, s_cons, q_ins, s_op, s_i, s_j, s_a, s_v, s_li, s_lj, s_la, s_liO, s_ljO, s_laO, q_get, q_p1, q_p2, s_n2i, s_n2r, s_n2l, s_n2n, q_pad, q_ar, s_ob, s_obO, q_nth, s_ri, s_riO, s_rb, s_rbO, s_rzO, s_rl, s_rlO, s_rq, s_rqO, s_ry, s_ryO, s_dn, s_tl, s_tn, s_ap, s_an, s_ci, s_cr, s_ni, s_n0, s_n1, q_ags, q_cat, List.contains_nil, List.contains_cons, Nat.reduceBEq, Bool.or_false, Bool.false_or, Bool.true_or, Bool.false_eq_true, ↓reduceIte, Nat.le_refl, Nat.zero_le, true_and, and_true, Nat.reduceLeDiff, Nat.reduceAdd, Nat.add_zero, Nat.zero_add, List.length_cons, List.length_nil, List.set_cons_zero, List.set_cons_succ, Nat.reduceLT, s_fi, s_fl, s_fo, s_fa, s_f0, s_f1, s_set, s_ss, lg_cmp_ge, lg_cmp_le, lg_cmp_gt, lg_cmp_lt, lg_cmp_eq, s_brT, s_brF, s_10, w_FO_load, r_FO_load, l_FO_load_0, l_FO_load_31, l_FO_load_48, kc_m1, f_7_39, ty_7_5, f_7_23, f_7_12, ml_7_75, w_Fo_takeFile, ml_7_78, w_Fo_firstWrong, f_7_31, ml_7_82, w_Ou_readsAll, kb_m5, f_7_19, ty_7_2, ty_7_3, kc_1, f_7_35, ty_7_4, f_7_86]
      exact q2 hr al h3 g1 r1 p1 p2 ⟨fun b b1 b2 b3 b4 b5 => (t3' b b5).trans (((t2 b (by omega) (by omega)).trans (t1 b b1 (by omega) (by omega) (by omega))).trans (t0 b b2)), B3, (t3' _ (by omega)).trans W2, J2.cp fun b hb => t3' b (by omega), U3⟩ o3
