/-! CharacterMap: is it found, is it well formed -/
def e_Cm (tc : Nat) (og pl mn : Int32) : q_E := .inr (1, [.ref tc, .int og, .int pl, .int mn])
/-- the first of the maps of a kind, from k on among r -/
def FEr (F : Nat → Nat) (cs cl kd : Nat) : Nat → Nat → Option Nat
  | _, 0 => none
  | k, r + 1 => if U16 F cs cl (4 + 8 * k) = 3 ∧ U16 F cs cl (4 + 8 * k + 2) = kd then some k else FEr F cs cl kd (k + 1) r
def q_fe : Option Nat → Int32
  | none => -1
  | some k => nI (4 + 8 * k)
set_option maxRecDepth 100000 in
set_option maxHeartbeats 4000000 in
theorem z_Cm_firstEntry {G : q_G} {l : Launch} {d a tc f row m n sz cs cl kd N : Nat} {og pl mn : Int32} {g : Nat → Int32} {F : Nat → Nat} {h : q_H} {Q : q_P} (hA : h a = some (e_Cm tc og pl mn)) (hT : q_Ta h tc f cs cl) (hB : q_By h f row m g sz F) (hin : cs + cl ≤ sz) (hN : N < 65536) (hkd : kd < 65536) :
    ∀ (r k : Nat), k + r = N → Q (some (.int (q_fe (FEr F cs cl kd k r)))) h n → q_Z G l M_Cm_firstEntry (d + 2) 0 0 Q 2 [some (.ref a), some (.int (nI N)), some (.int (nI kd)), some (.int (nI k)), none] [] h n 0 0 := by
  have hF := hB.2.2.2.2.2.2
  unfold e_Cm at hA
  have hT' : h tc = some (.inr (6, [.ref f, .int (nI cs), .int (nI cl)])) := hT
  intro r
  induction r with
  | zero =>
    intro k hk hq
    refine q_at o_Cm_firstEntry [2] 20 l_Cm_firstEntry_2 ?_
    simp -implicitDefEqProofs only [s_go, s_nil, s_cons, q_ins, s_op, s_i, s_j, s_a, s_v, s_li, s_lj, s_la, s_liO, s_ljO, s_laO, q_get, q_p1, q_p2, s_n2i, s_n2r, s_n2l, s_n2n, q_pad, q_ar, s_ob, s_obO, q_nth, s_ri, s_riO, s_rb, s_rbO, s_rzO, s_rl, s_rlO, s_rq, s_rqO, s_ry, s_ryO, s_dn, s_tl, s_tn, s_ap, s_an, s_ci, s_cr, s_ni, s_n0, s_n1, q_ags, q_cat, List.contains_nil, List.contains_cons, Nat.reduceBEq, Bool.or_false, Bool.false_or, Bool.true_or, Bool.false_eq_true, ↓reduceIte, Nat.le_refl, Nat.zero_le, true_and, and_true, Nat.reduceLeDiff, Nat.reduceAdd, Nat.add_zero, Nat.zero_add, List.length_cons, List.length_nil, List.set_cons_zero, List.set_cons_succ, Nat.reduceLT, s_fi, s_fl, s_fo, s_fa, s_f0, s_f1, s_set, s_ss, lg_cmp_ge, lg_cmp_le, lg_cmp_gt, lg_cmp_lt, lg_cmp_eq, s_brT, s_brF, s_10, w_Cm_firstEntry, r_Cm_firstEntry, l_Cm_firstEntry_0, l_Cm_firstEntry_2, l_Cm_firstEntry_46, l_Cm_firstEntry_52, kc_0, kc_4, kb_8, f_1_9, ml_1_26, w_Ta_u16, kc_3, kc_2, kc_1, kc_m1, hA, hT']
    exact ⟨fun _ => hq, fun c => absurd (nI_le (by omega) (by omega)) c⟩
  | succ r ih =>
    intro k hk hq
    refine q_at o_Cm_firstEntry [2] 20 l_Cm_firstEntry_2 ?_
    simp -implicitDefEqProofs only [s_go, s_nil, s_cons, q_ins, s_op, s_i, s_j, s_a, s_v, s_li, s_lj, s_la, s_liO, s_ljO, s_laO, q_get, q_p1, q_p2, s_n2i, s_n2r, s_n2l, s_n2n, q_pad, q_ar, s_ob, s_obO, q_nth, s_ri, s_riO, s_rb, s_rbO, s_rzO, s_rl, s_rlO, s_rq, s_rqO, s_ry, s_ryO, s_dn, s_tl, s_tn, s_ap, s_an, s_ci, s_cr, s_ni, s_n0, s_n1, q_ags, q_cat, List.contains_nil, List.contains_cons, Nat.reduceBEq, Bool.or_false, Bool.false_or, Bool.true_or, Bool.false_eq_true, ↓reduceIte, Nat.le_refl, Nat.zero_le, true_and, and_true, Nat.reduceLeDiff, Nat.reduceAdd, Nat.add_zero, Nat.zero_add, List.length_cons, List.length_nil, List.set_cons_zero, List.set_cons_succ, Nat.reduceLT, s_fi, s_fl, s_fo, s_fa, s_f0, s_f1, s_set, s_ss, lg_cmp_ge, lg_cmp_le, lg_cmp_gt, lg_cmp_lt, lg_cmp_eq, s_brT, s_brF, s_10, w_Cm_firstEntry, r_Cm_firstEntry, l_Cm_firstEntry_0, l_Cm_firstEntry_2, l_Cm_firstEntry_46, l_Cm_firstEntry_52, kc_0, kc_4, kb_8, f_1_9, ml_1_26, w_Ta_u16, kc_3, kc_2, kc_1, kc_m1, hA, hT']
    refine ⟨fun c => absurd ((nI_leI (by omega) (by omega)).mp c) (by omega), fun _ => ?_⟩
    rw [show (8 : Int32) * nI k = nI (8 * k) from pk_mul 8 k, show (4 : Int32) + nI (8 * k) = nI (4 + 8 * k) from nI_add 4 _]
    refine q_c0 (Nat.le_refl _) (Nat.le_refl _) ?_
    refine c_Ta_u16 hT hB hin (by omega) ?_
    have b1 := U16_lt hF cs cl (4 + 8 * k)
    have b2 := U16_lt hF cs cl (4 + 8 * k + 2)
    simp -implicitDefEqProofs only [s_go, s_nil, s_cons, q_ins, s_op, s_i, s_j, s_a, s_v, s_li, s_lj, s_la, s_liO, s_ljO, s_laO, q_get, q_p1, q_p2, s_n2i, s_n2r, s_n2l, s_n2n, q_pad, q_ar, s_ob, s_obO, q_nth, s_ri, s_riO, s_rb, s_rbO, s_rzO, s_rl, s_rlO, s_rq, s_rqO, s_ry, s_ryO, s_dn, s_tl, s_tn, s_ap, s_an, s_ci, s_cr, s_ni, s_n0, s_n1, q_ags, q_cat, List.contains_nil, List.contains_cons, Nat.reduceBEq, Bool.or_false, Bool.false_or, Bool.true_or, Bool.false_eq_true, ↓reduceIte, Nat.le_refl, Nat.zero_le, true_and, and_true, Nat.reduceLeDiff, Nat.reduceAdd, Nat.add_zero, Nat.zero_add, List.length_cons, List.length_nil, List.set_cons_zero, List.set_cons_succ, Nat.reduceLT, s_fi, s_fl, s_fo, s_fa, s_f0, s_f1, s_set, s_ss, lg_cmp_ge, lg_cmp_le, lg_cmp_gt, lg_cmp_lt, lg_cmp_eq, s_brT, s_brF, s_10, w_Cm_firstEntry, r_Cm_firstEntry, l_Cm_firstEntry_0, l_Cm_firstEntry_2, l_Cm_firstEntry_46, l_Cm_firstEntry_52, kc_0, kc_4, kb_8, f_1_9, ml_1_26, w_Ta_u16, kc_3, kc_2, kc_1, kc_m1, hA, hT']
    rw [show (3 : Int32) = nI 3 from rfl, nI_eq (by omega) (by omega)]
    have nxt : ¬ (U16 F cs cl (4 + 8 * k) = 3 ∧ U16 F cs cl (4 + 8 * k + 2) = kd) → q_Z G l M_Cm_firstEntry (d + 2) 0 0 Q 2 [some (.ref a), some (.int (nI N)), some (.int (nI kd)), some (.int (nI (k + 1))), none] [] h n 0 0 := by
      intro c
      refine ih (k + 1) (by omega) ?_
      have e : FEr F cs cl kd k (r + 1) = FEr F cs cl kd (k + 1) r := by
        show (if _ then some k else FEr F cs cl kd (k + 1) r) = _
        rw [if_neg c]
      rw [e] at hq
      exact hq
    refine ⟨fun c => ?_, fun c => q_wk (nxt (fun z => c z.1)) ⟨rfl, rfl, rfl, by rw [nI_1], trivial⟩⟩
    rw [show nI (4 + 8 * k) + 2 = nI (4 + 8 * k + 2) from nI_add _ 2]
    refine q_c0 (Nat.le_refl _) (Nat.le_refl _) ?_
    refine c_Ta_u16 hT hB hin (by omega) ?_
    simp -implicitDefEqProofs only [s_go, s_nil, s_cons, q_ins, s_op, s_i, s_j, s_a, s_v, s_li, s_lj, s_la, s_liO, s_ljO, s_laO, q_get, q_p1, q_p2, s_n2i, s_n2r, s_n2l, s_n2n, q_pad, q_ar, s_ob, s_obO, q_nth, s_ri, s_riO, s_rb, s_rbO, s_rzO, s_rl, s_rlO, s_rq, s_rqO, s_ry, s_ryO, s_dn, s_tl, s_tn, s_ap, s_an, s_ci, s_cr, s_ni, s_n0, s_n1, q_ags, q_cat, List.contains_nil, List.contains_cons, Nat.reduceBEq, Bool.or_false, Bool.false_or, Bool.true_or, Bool.false_eq_true, ↓reduceIte, Nat.le_refl, Nat.zero_le, true_and, and_true, Nat.reduceLeDiff, Nat.reduceAdd, Nat.add_zero, Nat.zero_add, List.length_cons, List.length_nil, List.set_cons_zero, List.set_cons_succ, Nat.reduceLT, s_fi, s_fl, s_fo, s_fa, s_f0, s_f1, s_set, s_ss, lg_cmp_ge, lg_cmp_le, lg_cmp_gt, lg_cmp_lt, lg_cmp_eq, s_brT, s_brF, s_10, w_Cm_firstEntry, r_Cm_firstEntry, l_Cm_firstEntry_0, l_Cm_firstEntry_2, l_Cm_firstEntry_46, l_Cm_firstEntry_52, kc_0, kc_4, kb_8, f_1_9, ml_1_26, w_Ta_u16, kc_3, kc_2, kc_1, kc_m1, hA, hT']
    rw [nI_eq (by omega) (by omega)]
    refine ⟨fun c1 => ?_, fun c1 => q_wk (nxt (fun z => c1 z.2)) ⟨rfl, rfl, rfl, by rw [nI_1], trivial⟩⟩
    have e : FEr F cs cl kd k (r + 1) = some k := by
      show (if _ then some k else FEr F cs cl kd (k + 1) r) = _
      rw [if_pos ⟨c, c1⟩]
    rw [e] at hq
    exact hq
set_option maxRecDepth 100000 in
set_option maxHeartbeats 4000000 in
theorem c_Cm_firstEntry {G : q_G} {l : Launch} {d a tc f row m n sz cs cl kd N : Nat} {og pl mn : Int32} {g : Nat → Int32} {F : Nat → Nat} {h : q_H} {Q : q_P} (hA : h a = some (e_Cm tc og pl mn)) (hT : q_Ta h tc f cs cl) (hB : q_By h f row m g sz F) (hin : cs + cl ≤ sz) (hN : N < 65536) (hkd : kd < 65536) (hq : Q (some (.int (q_fe (FEr F cs cl kd 0 N)))) h n) : q_Call G l M_Cm_firstEntry (d + 2) 0 0 [.ref a, .int (nI N), .int (nI kd)] h n Q := by
  refine q_in u_Cm_firstEntry (by rw [L_Cm_firstEntry]; exact Nat.le_of_ble_eq_true rfl) ?_
  rw [L_Cm_firstEntry]
  refine q_at o_Cm_firstEntry [2] 20 l_Cm_firstEntry_0 ?_
  simp -implicitDefEqProofs only [s_go, s_nil, s_cons, q_ins, s_op, s_i, s_j, s_a, s_v, s_li, s_lj, s_la, s_liO, s_ljO, s_laO, q_get, q_p1, q_p2, s_n2i, s_n2r, s_n2l, s_n2n, q_pad, q_ar, s_ob, s_obO, q_nth, s_ri, s_riO, s_rb, s_rbO, s_rzO, s_rl, s_rlO, s_rq, s_rqO, s_ry, s_ryO, s_dn, s_tl, s_tn, s_ap, s_an, s_ci, s_cr, s_ni, s_n0, s_n1, q_ags, q_cat, List.contains_nil, List.contains_cons, Nat.reduceBEq, Bool.or_false, Bool.false_or, Bool.true_or, Bool.false_eq_true, ↓reduceIte, Nat.le_refl, Nat.zero_le, true_and, and_true, Nat.reduceLeDiff, Nat.reduceAdd, Nat.add_zero, Nat.zero_add, List.length_cons, List.length_nil, List.set_cons_zero, List.set_cons_succ, Nat.reduceLT, s_fi, s_fl, s_fo, s_fa, s_f0, s_f1, s_set, s_ss, lg_cmp_ge, lg_cmp_le, lg_cmp_gt, lg_cmp_lt, lg_cmp_eq, s_brT, s_brF, s_10, w_Cm_firstEntry, r_Cm_firstEntry, l_Cm_firstEntry_0, l_Cm_firstEntry_2, l_Cm_firstEntry_46, l_Cm_firstEntry_52, kc_0, kc_4, kb_8, f_1_9, ml_1_26, w_Ta_u16, kc_3, kc_2, kc_1, kc_m1]
  exact z_Cm_firstEntry hA hT hB hin hN hkd N 0 (by omega) hq
set_option maxRecDepth 100000 in
set_option maxHeartbeats 4000000 in
theorem c_Cm_lastOf {G : q_G} {l : Launch} {d a tc f row m n sz cs cl p k : Nat} {og mn : Int32} {g : Nat → Int32} {F : Nat → Nat} {h : q_H} {Q : q_P} (hA : h a = some (e_Cm tc og (nI p) mn)) (hT : q_Ta h tc f cs cl) (hB : q_By h f row m g sz F) (hin : cs + cl ≤ sz) (hp : p ≤ 16384) (hk : k < 100000) (hq : Q (some (.int (nI (U16 F cs cl (p + 14 + 2 * k))))) h n) : q_Call G l M_Cm_lastOf (d + 2) 0 0 [.ref a, .int (nI k)] h n Q := by
  unfold e_Cm at hA
  have hT' : h tc = some (.inr (6, [.ref f, .int (nI cs), .int (nI cl)])) := hT
  refine q_in u_Cm_lastOf (by rw [L_Cm_lastOf]; exact Nat.le_of_ble_eq_true rfl) ?_
  rw [L_Cm_lastOf]
  refine q_at o_Cm_lastOf [] 20 l_Cm_lastOf_0 ?_
  simp -implicitDefEqProofs only [s_go, s_nil, s_cons, q_ins, s_op, s_i, s_j, s_a, s_v, s_li, s_lj, s_la, s_liO, s_ljO, s_laO, q_get, q_p1, q_p2, s_n2i, s_n2r, s_n2l, s_n2n, q_pad, q_ar, s_ob, s_obO, q_nth, s_ri, s_riO, s_rb, s_rbO, s_rzO, s_rl, s_rlO, s_rq, s_rqO, s_ry, s_ryO, s_dn, s_tl, s_tn, s_ap, s_an, s_ci, s_cr, s_ni, s_n0, s_n1, q_ags, q_cat, List.contains_nil, List.contains_cons, Nat.reduceBEq, Bool.or_false, Bool.false_or, Bool.true_or, Bool.false_eq_true, ↓reduceIte, Nat.le_refl, Nat.zero_le, true_and, and_true, Nat.reduceLeDiff, Nat.reduceAdd, Nat.add_zero, Nat.zero_add, List.length_cons, List.length_nil, List.set_cons_zero, List.set_cons_succ, Nat.reduceLT, s_fi, s_fl, s_fo, s_fa, s_f0, s_f1, s_set, s_ss, lg_cmp_ge, lg_cmp_le, lg_cmp_gt, lg_cmp_lt, lg_cmp_eq, s_brT, s_brF, s_10, w_Cm_lastOf, r_Cm_lastOf, l_Cm_lastOf_0, f_1_9, f_1_19, kb_14, kc_2, ml_1_26, w_Ta_u16, hA, hT']
  rw [show (2 : Int32) * nI k = nI (2 * k) from pk_mul 2 k, show nI p + 14 = nI (p + 14) from nI_add p 14, nI_add]
  refine q_c0 (Nat.le_refl _) (Nat.le_refl _) ?_
  refine c_Ta_u16 hT hB hin (by omega) ?_
  simp -implicitDefEqProofs only [s_go, s_nil, s_cons, q_ins, s_op, s_i, s_j, s_a, s_v, s_li, s_lj, s_la, s_liO, s_ljO, s_laO, q_get, q_p1, q_p2, s_n2i, s_n2r, s_n2l, s_n2n, q_pad, q_ar, s_ob, s_obO, q_nth, s_ri, s_riO, s_rb, s_rbO, s_rzO, s_rl, s_rlO, s_rq, s_rqO, s_ry, s_ryO, s_dn, s_tl, s_tn, s_ap, s_an, s_ci, s_cr, s_ni, s_n0, s_n1, q_ags, q_cat, List.contains_nil, List.contains_cons, Nat.reduceBEq, Bool.or_false, Bool.false_or, Bool.true_or, Bool.false_eq_true, ↓reduceIte, Nat.le_refl, Nat.zero_le, true_and, and_true, Nat.reduceLeDiff, Nat.reduceAdd, Nat.add_zero, Nat.zero_add, List.length_cons, List.length_nil, List.set_cons_zero, List.set_cons_succ, Nat.reduceLT, s_fi, s_fl, s_fo, s_fa, s_f0, s_f1, s_set, s_ss, lg_cmp_ge, lg_cmp_le, lg_cmp_gt, lg_cmp_lt, lg_cmp_eq, s_brT, s_brF, s_10, w_Cm_lastOf, r_Cm_lastOf, l_Cm_lastOf_0, f_1_9, f_1_19, kb_14, kc_2, ml_1_26, w_Ta_u16]
  exact hq
set_option maxRecDepth 100000 in
set_option maxHeartbeats 4000000 in
theorem c_Cm_firstOf {G : q_G} {l : Launch} {d a tc f row m n sz cs cl p k S : Nat} {og : Int32} {g : Nat → Int32} {F : Nat → Nat} {h : q_H} {Q : q_P} (hA : h a = some (e_Cm tc og (nI p) (nI S))) (hT : q_Ta h tc f cs cl) (hB : q_By h f row m g sz F) (hin : cs + cl ≤ sz) (hp : p ≤ 16384) (hS : S < 100000) (hk : k < 100000) (hq : Q (some (.int (nI (U16 F cs cl (p + 16 + 2 * S + 2 * k))))) h n) : q_Call G l M_Cm_firstOf (d + 2) 0 0 [.ref a, .int (nI k)] h n Q := by
  unfold e_Cm at hA
  have hT' : h tc = some (.inr (6, [.ref f, .int (nI cs), .int (nI cl)])) := hT
  refine q_in u_Cm_firstOf (by rw [L_Cm_firstOf]; exact Nat.le_of_ble_eq_true rfl) ?_
  rw [L_Cm_firstOf]
  refine q_at o_Cm_firstOf [] 20 l_Cm_firstOf_0 ?_
  simp -implicitDefEqProofs only [s_go, s_nil, s_cons, q_ins, s_op, s_i, s_j, s_a, s_v, s_li, s_lj, s_la, s_liO, s_ljO, s_laO, q_get, q_p1, q_p2, s_n2i, s_n2r, s_n2l, s_n2n, q_pad, q_ar, s_ob, s_obO, q_nth, s_ri, s_riO, s_rb, s_rbO, s_rzO, s_rl, s_rlO, s_rq, s_rqO, s_ry, s_ryO, s_dn, s_tl, s_tn, s_ap, s_an, s_ci, s_cr, s_ni, s_n0, s_n1, q_ags, q_cat, List.contains_nil, List.contains_cons, Nat.reduceBEq, Bool.or_false, Bool.false_or, Bool.true_or, Bool.false_eq_true, ↓reduceIte, Nat.le_refl, Nat.zero_le, true_and, and_true, Nat.reduceLeDiff, Nat.reduceAdd, Nat.add_zero, Nat.zero_add, List.length_cons, List.length_nil, List.set_cons_zero, List.set_cons_succ, Nat.reduceLT, s_fi, s_fl, s_fo, s_fa, s_f0, s_f1, s_set, s_ss, lg_cmp_ge, lg_cmp_le, lg_cmp_gt, lg_cmp_lt, lg_cmp_eq, s_brT, s_brF, s_10, w_Cm_firstOf, r_Cm_firstOf, l_Cm_firstOf_0, f_1_9, f_1_19, kb_16, kc_2, f_1_23, ml_1_26, w_Ta_u16, hA, hT']
  rw [show (2 : Int32) * nI k = nI (2 * k) from pk_mul 2 k, show (2 : Int32) * nI S = nI (2 * S) from pk_mul 2 S, show nI p + 16 = nI (p + 16) from nI_add p 16, nI_add, nI_add]
  refine q_c0 (Nat.le_refl _) (Nat.le_refl _) ?_
  refine c_Ta_u16 hT hB hin (by omega) ?_
  simp -implicitDefEqProofs only [s_go, s_nil, s_cons, q_ins, s_op, s_i, s_j, s_a, s_v, s_li, s_lj, s_la, s_liO, s_ljO, s_laO, q_get, q_p1, q_p2, s_n2i, s_n2r, s_n2l, s_n2n, q_pad, q_ar, s_ob, s_obO, q_nth, s_ri, s_riO, s_rb, s_rbO, s_rzO, s_rl, s_rlO, s_rq, s_rqO, s_ry, s_ryO, s_dn, s_tl, s_tn, s_ap, s_an, s_ci, s_cr, s_ni, s_n0, s_n1, q_ags, q_cat, List.contains_nil, List.contains_cons, Nat.reduceBEq, Bool.or_false, Bool.false_or, Bool.true_or, Bool.false_eq_true, ↓reduceIte, Nat.le_refl, Nat.zero_le, true_and, and_true, Nat.reduceLeDiff, Nat.reduceAdd, Nat.add_zero, Nat.zero_add, List.length_cons, List.length_nil, List.set_cons_zero, List.set_cons_succ, Nat.reduceLT, s_fi, s_fl, s_fo, s_fa, s_f0, s_f1, s_set, s_ss, lg_cmp_ge, lg_cmp_le, lg_cmp_gt, lg_cmp_lt, lg_cmp_eq, s_brT, s_brF, s_10, w_Cm_firstOf, r_Cm_firstOf, l_Cm_firstOf_0, f_1_9, f_1_19, kb_16, kc_2, f_1_23, ml_1_26, w_Ta_u16]
  exact hq
/-- groups of the map at p: first, last of the k-th -/
def g_f (F : Nat → Nat) (cs cl p k : Nat) : Nat := U32 F cs cl (p + 16 + 12 * k)
def g_l (F : Nat → Nat) (cs cl p k : Nat) : Nat := U32 F cs cl (p + 16 + 12 * k + 4)
def g_ok (F : Nat → Nat) (cs cl p k : Nat) : Prop := (0 < k → g_l F cs cl p (k - 1) < g_f F cs cl p k) ∧ g_f F cs cl p k ≤ g_l F cs cl p k
def GR_ok (F : Nat → Nat) (cs cl p : Nat) : Prop := p + 16 ≤ cl ∧ U16 F cs cl p = 12 ∧ p + 16 + 12 * U32 F cs cl (p + 12) ≤ cl ∧ (∀ k, k < U32 F cs cl (p + 12) → g_ok F cs cl p k) ∧ (0 < U32 F cs cl (p + 12) → g_l F cs cl p (U32 F cs cl (p + 12) - 1) ≤ 1114111)
def q_gb (F : Nat → Nat) (cs cl p k : Nat) : Int64 := if k = 0 then -1 else lN (g_l F cs cl p (k - 1))
theorem q_gb_le {F : Nat → Nat} (hF : ∀ j, F j < 256) {cs cl p k : Nat} : (lN (g_f F cs cl p k) ≤ q_gb F cs cl p k) ↔ ¬ (0 < k → g_l F cs cl p (k - 1) < g_f F cs cl p k) := by
  have b1 := U32_lt hF cs cl (p + 16 + 12 * k)
  have b2 := U32_lt hF cs cl (p + 16 + 12 * (k - 1) + 4)
  unfold q_gb
  by_cases hk : k = 0
  · subst hk
    rw [if_pos rfl]
    constructor
    · intro h; exact absurd h (q_lm1 (by unfold g_f; omega))
    · intro h; exact absurd (fun z => absurd z (by omega)) h
  · rw [if_neg hk, pk_lLE (by unfold g_f; omega) (by unfold g_l; omega)]
    constructor
    · intro h z; have := z (by omega); omega
    · intro h
      rcases Nat.lt_or_ge (g_l F cs cl p (k - 1)) (g_f F cs cl p k) with q | q
      · exact absurd (fun _ => q) h
      · exact q
set_option maxRecDepth 100000 in
set_option maxHeartbeats 4000000 in
theorem z_Cm_hasGroups {G : q_G} {l : Launch} {d a tc f row m n sz cs cl p : Nat} {og : Int32} {x1 : Int64} {g : Nat → Int32} {F : Nat → Nat} {h : q_H} {Q : q_P} (hA : h a = some (e_Cm tc og (nI p) (nI (U32 F cs cl (p + 12))))) (hT : q_Ta h tc f cs cl) (hB : q_By h f row m g sz F) (hin : cs + cl ≤ sz) (c0 : p + 16 ≤ cl) (c1 : U16 F cs cl p = 12) (c2 : p + 16 + 12 * U32 F cs cl (p + 12) ≤ cl)
    (q1 : GR_ok F cs cl p → Q (some (.int 1)) h n) (q0 : ¬ GR_ok F cs cl p → Q (some (.int 0)) h n) :
    ∀ (r k : Nat), k + r = U32 F cs cl (p + 12) → (∀ j, j < k → g_ok F cs cl p j) → q_Z G l M_Cm_hasGroups (d + 2) 0 0 Q 89 [some (.ref a), some (.long x1), none, some (.long (q_gb F cs cl p k)), none, some (.int (nI k)), none, none, none, none, none] [] h n 0 0 := by
  have hF := hB.2.2.2.2.2.2
  have hs : sz ≤ 16384 := Nat.le_trans hB.2.2.1 hB.2.2.2.1
  have hA' := hA
  unfold e_Cm at hA'
  have hT' : h tc = some (.inr (6, [.ref f, .int (nI cs), .int (nI cl)])) := hT
  intro r
  induction r with
  | zero =>
    intro k hk hall
    have hk : k = U32 F cs cl (p + 12) := by omega
    have b2 := U32_lt hF cs cl (p + 16 + 12 * (k - 1) + 4)
    refine q_at o_Cm_hasGroups [89] 20 l_Cm_hasGroups_89 ?_
    simp -implicitDefEqProofs only [s_go, s_nil, s_cons, q_ins, s_op, s_i, s_j, s_a, s_v, s_li, s_lj, s_la, s_liO, s_ljO, s_laO, q_get, q_p1, q_p2, s_n2i, s_n2r, s_n2l, s_n2n, q_pad, q_ar, s_ob, s_obO, q_nth, s_ri, s_riO, s_rb, s_rbO, s_rzO, s_rl, s_rlO, s_rq, s_rqO, s_ry, s_ryO, s_dn, s_tl, s_tn, s_ap, s_an, s_ci, s_cr, s_ni, s_n0, s_n1, q_ags, q_cat, List.contains_nil, List.contains_cons, Nat.reduceBEq, Bool.or_false, Bool.false_or, Bool.true_or, Bool.false_eq_true, ↓reduceIte, Nat.le_refl, Nat.zero_le, true_and, and_true, Nat.reduceLeDiff, Nat.reduceAdd, Nat.add_zero, Nat.zero_add, List.length_cons, List.length_nil, List.set_cons_zero, List.set_cons_succ, Nat.reduceLT, s_fi, s_fl, s_fo, s_fa, s_f0, s_f1, s_set, s_ss, lg_cmp_ge, lg_cmp_le, lg_cmp_gt, lg_cmp_lt, lg_cmp_eq, s_brT, s_brF, s_10, w_Cm_hasGroups, r_Cm_hasGroups, l_Cm_hasGroups_0, l_Cm_hasGroups_34, l_Cm_hasGroups_36, l_Cm_hasGroups_76, l_Cm_hasGroups_89, l_Cm_hasGroups_152, l_Cm_hasGroups_154, l_Cm_hasGroups_163, l_Cm_hasGroups_175, l_Cm_hasGroups_176, f_1_9, f_1_19, kl_1_56, ml_1_34, w_Ta_holds, ml_1_26, w_Ta_u16, kb_12, kc_0, ml_1_42, w_Ta_u32, kb_16, kl_1_58, f_1_23, ty_1_3, kl_1_60, kc_4, kc_1, kl_1_62, hA', hT']
    refine ⟨fun _ => ?_, fun c => absurd (nI_le (by omega) (by omega)) c⟩
    have key : ((1114111 : Int64) < q_gb F cs cl p k) ↔ ¬ (0 < U32 F cs cl (p + 12) → g_l F cs cl p (U32 F cs cl (p + 12) - 1) ≤ 1114111) := by
      unfold q_gb
      rw [← hk]
      by_cases h0 : k = 0
      · rw [if_pos h0]
        exact ⟨fun z => absurd z (by decide), fun z => absurd (fun y => absurd y (by omega)) z⟩
      · rw [if_neg h0, show (1114111 : Int64) = lN 1114111 from rfl, pk_lLT (by omega) (by unfold g_l; omega)]
        constructor
        · intro z y; have := y (by omega); omega
        · intro z
          rcases Nat.lt_or_ge 1114111 (g_l F cs cl p (k - 1)) with y | y
          · exact y
          · exact absurd (fun _ => y) z
    rw [key]
    exact ⟨fun z => q0 (fun y => z y.2.2.2.2), fun z => q1 ⟨c0, c1, c2, by rw [← hk]; exact hall, Classical.not_not.mp z⟩⟩
  | succ r ih =>
    intro k hk hall
    have b1 := U32_lt hF cs cl (p + 16 + 12 * k)
    have b2 := U32_lt hF cs cl (p + 16 + 12 * k + 4)
    refine q_at o_Cm_hasGroups [89] 20 l_Cm_hasGroups_89 ?_
    simp -implicitDefEqProofs only [s_go, s_nil, s_cons, q_ins, s_op, s_i, s_j, s_a, s_v, s_li, s_lj, s_la, s_liO, s_ljO, s_laO, q_get, q_p1, q_p2, s_n2i, s_n2r, s_n2l, s_n2n, q_pad, q_ar, s_ob, s_obO, q_nth, s_ri, s_riO, s_rb, s_rbO, s_rzO, s_rl, s_rlO, s_rq, s_rqO, s_ry, s_ryO, s_dn, s_tl, s_tn, s_ap, s_an, s_ci, s_cr, s_ni, s_n0, s_n1, q_ags, q_cat, List.contains_nil, List.contains_cons, Nat.reduceBEq, Bool.or_false, Bool.false_or, Bool.true_or, Bool.false_eq_true, ↓reduceIte, Nat.le_refl, Nat.zero_le, true_and, and_true, Nat.reduceLeDiff, Nat.reduceAdd, Nat.add_zero, Nat.zero_add, List.length_cons, List.length_nil, List.set_cons_zero, List.set_cons_succ, Nat.reduceLT, s_fi, s_fl, s_fo, s_fa, s_f0, s_f1, s_set, s_ss, lg_cmp_ge, lg_cmp_le, lg_cmp_gt, lg_cmp_lt, lg_cmp_eq, s_brT, s_brF, s_10, w_Cm_hasGroups, r_Cm_hasGroups, l_Cm_hasGroups_0, l_Cm_hasGroups_34, l_Cm_hasGroups_36, l_Cm_hasGroups_76, l_Cm_hasGroups_89, l_Cm_hasGroups_152, l_Cm_hasGroups_154, l_Cm_hasGroups_163, l_Cm_hasGroups_175, l_Cm_hasGroups_176, f_1_9, f_1_19, kl_1_56, ml_1_34, w_Ta_holds, ml_1_26, w_Ta_u16, kb_12, kc_0, ml_1_42, w_Ta_u32, kb_16, kl_1_58, f_1_23, ty_1_3, kl_1_60, kc_4, kc_1, kl_1_62, hA', hT']
    refine ⟨fun c => absurd ((nI_leI (by omega) (by omega)).mp c) (by omega), fun _ => ?_⟩
    rw [show (12 : Int32) * nI k = nI (12 * k) from pk_mul 12 k, show nI p + 16 = nI (p + 16) from nI_add p 16, nI_add]
    refine q_c0 (Nat.le_refl _) (Nat.le_refl _) ?_
    refine c_Ta_u32 hT hB hin (by omega) ?_
    simp -implicitDefEqProofs only [s_go, s_nil, s_cons, q_ins, s_op, s_i, s_j, s_a, s_v, s_li, s_lj, s_la, s_liO, s_ljO, s_laO, q_get, q_p1, q_p2, s_n2i, s_n2r, s_n2l, s_n2n, q_pad, q_ar, s_ob, s_obO, q_nth, s_ri, s_riO, s_rb, s_rbO, s_rzO, s_rl, s_rlO, s_rq, s_rqO, s_ry, s_ryO, s_dn, s_tl, s_tn, s_ap, s_an, s_ci, s_cr, s_ni, s_n0, s_n1, q_ags, q_cat, List.contains_nil, List.contains_cons, Nat.reduceBEq, Bool.or_false, Bool.false_or, Bool.true_or, Bool.false_eq_true, ↓reduceIte, Nat.le_refl, Nat.zero_le, true_and, and_true, Nat.reduceLeDiff, Nat.reduceAdd, Nat.add_zero, Nat.zero_add, List.length_cons, List.length_nil, List.set_cons_zero, List.set_cons_succ, Nat.reduceLT, s_fi, s_fl, s_fo, s_fa, s_f0, s_f1, s_set, s_ss, lg_cmp_ge, lg_cmp_le, lg_cmp_gt, lg_cmp_lt, lg_cmp_eq, s_brT, s_brF, s_10, w_Cm_hasGroups, r_Cm_hasGroups, l_Cm_hasGroups_0, l_Cm_hasGroups_34, l_Cm_hasGroups_36, l_Cm_hasGroups_76, l_Cm_hasGroups_89, l_Cm_hasGroups_152, l_Cm_hasGroups_154, l_Cm_hasGroups_163, l_Cm_hasGroups_175, l_Cm_hasGroups_176, f_1_9, f_1_19, kl_1_56, ml_1_34, w_Ta_holds, ml_1_26, w_Ta_u16, kb_12, kc_0, ml_1_42, w_Ta_u32, kb_16, kl_1_58, f_1_23, ty_1_3, kl_1_60, kc_4, kc_1, kl_1_62, hA', hT']
    rw [show nI (p + 16 + 12 * k) + 4 = nI (p + 16 + 12 * k + 4) from nI_add _ 4]
    refine q_c0 (Nat.le_refl _) (Nat.le_refl _) ?_
    refine c_Ta_u32 hT hB hin (by omega) ?_
    simp -implicitDefEqProofs only [s_go, s_nil, s_cons, q_ins, s_op, s_i, s_j, s_a, s_v, s_li, s_lj, s_la, s_liO, s_ljO, s_laO, q_get, q_p1, q_p2, s_n2i, s_n2r, s_n2l, s_n2n, q_pad, q_ar, s_ob, s_obO, q_nth, s_ri, s_riO, s_rb, s_rbO, s_rzO, s_rl, s_rlO, s_rq, s_rqO, s_ry, s_ryO, s_dn, s_tl, s_tn, s_ap, s_an, s_ci, s_cr, s_ni, s_n0, s_n1, q_ags, q_cat, List.contains_nil, List.contains_cons, Nat.reduceBEq, Bool.or_false, Bool.false_or, Bool.true_or, Bool.false_eq_true, ↓reduceIte, Nat.le_refl, Nat.zero_le, true_and, and_true, Nat.reduceLeDiff, Nat.reduceAdd, Nat.add_zero, Nat.zero_add, List.length_cons, List.length_nil, List.set_cons_zero, List.set_cons_succ, Nat.reduceLT, s_fi, s_fl, s_fo, s_fa, s_f0, s_f1, s_set, s_ss, lg_cmp_ge, lg_cmp_le, lg_cmp_gt, lg_cmp_lt, lg_cmp_eq, s_brT, s_brF, s_10, w_Cm_hasGroups, r_Cm_hasGroups, l_Cm_hasGroups_0, l_Cm_hasGroups_34, l_Cm_hasGroups_36, l_Cm_hasGroups_76, l_Cm_hasGroups_89, l_Cm_hasGroups_152, l_Cm_hasGroups_154, l_Cm_hasGroups_163, l_Cm_hasGroups_175, l_Cm_hasGroups_176, f_1_9, f_1_19, kl_1_56, ml_1_34, w_Ta_holds, ml_1_26, w_Ta_u16, kb_12, kc_0, ml_1_42, w_Ta_u32, kb_16, kl_1_58, f_1_23, ty_1_3, kl_1_60, kc_4, kc_1, kl_1_62, hA', hT']
    rw [show lN (U32 F cs cl (p + 16 + 12 * k)) = lN (g_f F cs cl p k) from rfl, q_gb_le hF, pk_lLE (by unfold g_f; omega) (by omega)]
    refine ⟨fun c => q0 (fun z => c (z.2.2.2.1 k (by omega)).1), fun c => ⟨fun c3 => ?_, fun c3 => q0 (fun z => c3 (z.2.2.2.1 k (by omega)).2)⟩⟩
    refine q_wk (ih (k + 1) (by omega) (fun j hj => ?_)) ⟨rfl, rfl, ?_, by rw [nI_1], trivial⟩
    · rcases Nat.lt_or_ge j k with z | z
      · exact hall j z
      · have : j = k := by omega
        subst this
        exact ⟨Classical.not_not.mp c, c3⟩
    · unfold q_gb
      rw [if_neg (by omega)]
      rfl
set_option maxRecDepth 100000 in
set_option maxHeartbeats 4000000 in
theorem c_Cm_hasGroups {G : q_G} {l : Launch} {d a tc f row m n sz cs cl p : Nat} {og mn : Int32} {g : Nat → Int32} {F : Nat → Nat} {h : q_H} {Q : q_P} (hA : h a = some (e_Cm tc og (nI p) mn)) (hT : q_Ta h tc f cs cl) (hB : q_By h f row m g sz F) (hin : cs + cl ≤ sz) (hp : p ≤ cl)
    (q1 : GR_ok F cs cl p → Q (some (.int 1)) (q_set h a (e_Cm tc og (nI p) (nI (U32 F cs cl (p + 12))))) n) (q0 : ¬ GR_ok F cs cl p → ∀ mn, Q (some (.int 0)) (q_set h a (e_Cm tc og (nI p) mn)) n) : q_Call G l M_Cm_hasGroups (d + 2) 0 0 [.ref a] h n Q := by
  have hF := hB.2.2.2.2.2.2
  have hs : sz ≤ 16384 := Nat.le_trans hB.2.2.1 hB.2.2.2.1
  have hA' := hA
  unfold e_Cm at hA'
  have hT' : h tc = some (.inr (6, [.ref f, .int (nI cs), .int (nI cl)])) := hT
  have q0' : ¬ GR_ok F cs cl p → Q (some (.int 0)) h n := fun z => by
    have := q0 z mn
    rw [s_id h hA] at this
    exact this
  have bu := U16_lt hF cs cl p
  have bn := U32_lt hF cs cl (p + 12)
  have hta : tc ≠ a := fun q => by rw [q, hA'] at hT'; cases hT'
  have hfa : f ≠ a := fun q => by have := hB.1; rw [q, hA'] at this; cases this
  have hra := hB.ne hA'
  refine q_in u_Cm_hasGroups (by rw [L_Cm_hasGroups]; exact Nat.le_of_ble_eq_true rfl) ?_
  rw [L_Cm_hasGroups]
  refine q_at o_Cm_hasGroups [89] 20 l_Cm_hasGroups_0 ?_
  simp -implicitDefEqProofs only [s_go, s_nil, s_cons, q_ins, s_op, s_i, s_j, s_a, s_v, s_li, s_lj, s_la, s_liO, s_ljO, s_laO, q_get, q_p1, q_p2, s_n2i, s_n2r, s_n2l, s_n2n, q_pad, q_ar, s_ob, s_obO, q_nth, s_ri, s_riO, s_rb, s_rbO, s_rzO, s_rl, s_rlO, s_rq, s_rqO, s_ry, s_ryO, s_dn, s_tl, s_tn, s_ap, s_an, s_ci, s_cr, s_ni, s_n0, s_n1, q_ags, q_cat, List.contains_nil, List.contains_cons, Nat.reduceBEq, Bool.or_false, Bool.false_or, Bool.true_or, Bool.false_eq_true, ↓reduceIte, Nat.le_refl, Nat.zero_le, true_and, and_true, Nat.reduceLeDiff, Nat.reduceAdd, Nat.add_zero, Nat.zero_add, List.length_cons, List.length_nil, List.set_cons_zero, List.set_cons_succ, Nat.reduceLT, s_fi, s_fl, s_fo, s_fa, s_f0, s_f1, s_set, s_ss, lg_cmp_ge, lg_cmp_le, lg_cmp_gt, lg_cmp_lt, lg_cmp_eq, s_brT, s_brF, s_10, w_Cm_hasGroups, r_Cm_hasGroups, l_Cm_hasGroups_0, l_Cm_hasGroups_34, l_Cm_hasGroups_36, l_Cm_hasGroups_76, l_Cm_hasGroups_89, l_Cm_hasGroups_152, l_Cm_hasGroups_154, l_Cm_hasGroups_163, l_Cm_hasGroups_175, l_Cm_hasGroups_176, f_1_9, f_1_19, kl_1_56, ml_1_34, w_Ta_holds, ml_1_26, w_Ta_u16, kb_12, kc_0, ml_1_42, w_Ta_u32, kb_16, kl_1_58, f_1_23, ty_1_3, kl_1_60, kc_4, kc_1, kl_1_62, hA', hT', nI_l (show p < 2 ^ 31 by omega)]
  refine q_c0 (Nat.le_refl _) (Nat.le_refl _) ?_
  refine c_Ta_holds (y := 16) hT (by omega) (by omega) (by omega) ?_
  simp -implicitDefEqProofs only [s_go, s_nil, s_cons, q_ins, s_op, s_i, s_j, s_a, s_v, s_li, s_lj, s_la, s_liO, s_ljO, s_laO, q_get, q_p1, q_p2, s_n2i, s_n2r, s_n2l, s_n2n, q_pad, q_ar, s_ob, s_obO, q_nth, s_ri, s_riO, s_rb, s_rbO, s_rzO, s_rl, s_rlO, s_rq, s_rqO, s_ry, s_ryO, s_dn, s_tl, s_tn, s_ap, s_an, s_ci, s_cr, s_ni, s_n0, s_n1, q_ags, q_cat, List.contains_nil, List.contains_cons, Nat.reduceBEq, Bool.or_false, Bool.false_or, Bool.true_or, Bool.false_eq_true, ↓reduceIte, Nat.le_refl, Nat.zero_le, true_and, and_true, Nat.reduceLeDiff, Nat.reduceAdd, Nat.add_zero, Nat.zero_add, List.length_cons, List.length_nil, List.set_cons_zero, List.set_cons_succ, Nat.reduceLT, s_fi, s_fl, s_fo, s_fa, s_f0, s_f1, s_set, s_ss, lg_cmp_ge, lg_cmp_le, lg_cmp_gt, lg_cmp_lt, lg_cmp_eq, s_brT, s_brF, s_10, w_Cm_hasGroups, r_Cm_hasGroups, l_Cm_hasGroups_0, l_Cm_hasGroups_34, l_Cm_hasGroups_36, l_Cm_hasGroups_76, l_Cm_hasGroups_89, l_Cm_hasGroups_152, l_Cm_hasGroups_154, l_Cm_hasGroups_163, l_Cm_hasGroups_175, l_Cm_hasGroups_176, f_1_9, f_1_19, kl_1_56, ml_1_34, w_Ta_holds, ml_1_26, w_Ta_u16, kb_12, kc_0, ml_1_42, w_Ta_u32, kb_16, kl_1_58, f_1_23, ty_1_3, kl_1_60, kc_4, kc_1, kl_1_62, hA', hT']
  by_cases c0 : p + 16 ≤ cl
  · rw [q_z_t c0]
    refine ⟨fun z => absurd z (by decide), fun _ => ?_⟩
    refine q_c0 (Nat.le_refl _) (Nat.le_refl _) ?_
    refine c_Ta_u16 hT hB hin (by omega) ?_
    simp -implicitDefEqProofs only [s_go, s_nil, s_cons, q_ins, s_op, s_i, s_j, s_a, s_v, s_li, s_lj, s_la, s_liO, s_ljO, s_laO, q_get, q_p1, q_p2, s_n2i, s_n2r, s_n2l, s_n2n, q_pad, q_ar, s_ob, s_obO, q_nth, s_ri, s_riO, s_rb, s_rbO, s_rzO, s_rl, s_rlO, s_rq, s_rqO, s_ry, s_ryO, s_dn, s_tl, s_tn, s_ap, s_an, s_ci, s_cr, s_ni, s_n0, s_n1, q_ags, q_cat, List.contains_nil, List.contains_cons, Nat.reduceBEq, Bool.or_false, Bool.false_or, Bool.true_or, Bool.false_eq_true, ↓reduceIte, Nat.le_refl, Nat.zero_le, true_and, and_true, Nat.reduceLeDiff, Nat.reduceAdd, Nat.add_zero, Nat.zero_add, List.length_cons, List.length_nil, List.set_cons_zero, List.set_cons_succ, Nat.reduceLT, s_fi, s_fl, s_fo, s_fa, s_f0, s_f1, s_set, s_ss, lg_cmp_ge, lg_cmp_le, lg_cmp_gt, lg_cmp_lt, lg_cmp_eq, s_brT, s_brF, s_10, w_Cm_hasGroups, r_Cm_hasGroups, l_Cm_hasGroups_0, l_Cm_hasGroups_34, l_Cm_hasGroups_36, l_Cm_hasGroups_76, l_Cm_hasGroups_89, l_Cm_hasGroups_152, l_Cm_hasGroups_154, l_Cm_hasGroups_163, l_Cm_hasGroups_175, l_Cm_hasGroups_176, f_1_9, f_1_19, kl_1_56, ml_1_34, w_Ta_holds, ml_1_26, w_Ta_u16, kb_12, kc_0, ml_1_42, w_Ta_u32, kb_16, kl_1_58, f_1_23, ty_1_3, kl_1_60, kc_4, kc_1, kl_1_62, hA', hT']
    rw [show (12 : Int32) = nI 12 from rfl, nI_eq (by omega) (by omega)]
    refine ⟨fun c1 => ?_, fun c1 => q0' (fun z => c1 z.2.1)⟩
    rw [nI_add]
    refine q_c0 (Nat.le_refl _) (Nat.le_refl _) ?_
    refine c_Ta_u32 hT hB hin (by omega) ?_
    simp -implicitDefEqProofs only [s_go, s_nil, s_cons, q_ins, s_op, s_i, s_j, s_a, s_v, s_li, s_lj, s_la, s_liO, s_ljO, s_laO, q_get, q_p1, q_p2, s_n2i, s_n2r, s_n2l, s_n2n, q_pad, q_ar, s_ob, s_obO, q_nth, s_ri, s_riO, s_rb, s_rbO, s_rzO, s_rl, s_rlO, s_rq, s_rqO, s_ry, s_ryO, s_dn, s_tl, s_tn, s_ap, s_an, s_ci, s_cr, s_ni, s_n0, s_n1, q_ags, q_cat, List.contains_nil, List.contains_cons, Nat.reduceBEq, Bool.or_false, Bool.false_or, Bool.true_or, Bool.false_eq_true, ↓reduceIte, Nat.le_refl, Nat.zero_le, true_and, and_true, Nat.reduceLeDiff, Nat.reduceAdd, Nat.add_zero, Nat.zero_add, List.length_cons, List.length_nil, List.set_cons_zero, List.set_cons_succ, Nat.reduceLT, s_fi, s_fl, s_fo, s_fa, s_f0, s_f1, s_set, s_ss, lg_cmp_ge, lg_cmp_le, lg_cmp_gt, lg_cmp_lt, lg_cmp_eq, s_brT, s_brF, s_10, w_Cm_hasGroups, r_Cm_hasGroups, l_Cm_hasGroups_0, l_Cm_hasGroups_34, l_Cm_hasGroups_36, l_Cm_hasGroups_76, l_Cm_hasGroups_89, l_Cm_hasGroups_152, l_Cm_hasGroups_154, l_Cm_hasGroups_163, l_Cm_hasGroups_175, l_Cm_hasGroups_176, f_1_9, f_1_19, kl_1_56, ml_1_34, w_Ta_holds, ml_1_26, w_Ta_u16, kb_12, kc_0, ml_1_42, w_Ta_u32, kb_16, kl_1_58, f_1_23, ty_1_3, kl_1_60, kc_4, kc_1, kl_1_62, hA', hT']
    rw [show nI p + 16 = nI (p + 16) from nI_add p 16, nI_l (by omega), show (12 : Int64) = lN 12 from rfl, lN_mul]
    refine q_c0 (Nat.le_refl _) (Nat.le_refl _) ?_
    refine c_Ta_holds hT (by omega) (by omega) (by omega) ?_
    simp -implicitDefEqProofs only [s_go, s_nil, s_cons, q_ins, s_op, s_i, s_j, s_a, s_v, s_li, s_lj, s_la, s_liO, s_ljO, s_laO, q_get, q_p1, q_p2, s_n2i, s_n2r, s_n2l, s_n2n, q_pad, q_ar, s_ob, s_obO, q_nth, s_ri, s_riO, s_rb, s_rbO, s_rzO, s_rl, s_rlO, s_rq, s_rqO, s_ry, s_ryO, s_dn, s_tl, s_tn, s_ap, s_an, s_ci, s_cr, s_ni, s_n0, s_n1, q_ags, q_cat, List.contains_nil, List.contains_cons, Nat.reduceBEq, Bool.or_false, Bool.false_or, Bool.true_or, Bool.false_eq_true, ↓reduceIte, Nat.le_refl, Nat.zero_le, true_and, and_true, Nat.reduceLeDiff, Nat.reduceAdd, Nat.add_zero, Nat.zero_add, List.length_cons, List.length_nil, List.set_cons_zero, List.set_cons_succ, Nat.reduceLT, s_fi, s_fl, s_fo, s_fa, s_f0, s_f1, s_set, s_ss, lg_cmp_ge, lg_cmp_le, lg_cmp_gt, lg_cmp_lt, lg_cmp_eq, s_brT, s_brF, s_10, w_Cm_hasGroups, r_Cm_hasGroups, l_Cm_hasGroups_0, l_Cm_hasGroups_34, l_Cm_hasGroups_36, l_Cm_hasGroups_76, l_Cm_hasGroups_89, l_Cm_hasGroups_152, l_Cm_hasGroups_154, l_Cm_hasGroups_163, l_Cm_hasGroups_175, l_Cm_hasGroups_176, f_1_9, f_1_19, kl_1_56, ml_1_34, w_Ta_holds, ml_1_26, w_Ta_u16, kb_12, kc_0, ml_1_42, w_Ta_u32, kb_16, kl_1_58, f_1_23, ty_1_3, kl_1_60, kc_4, kc_1, kl_1_62, hA', hT', lN_i]
    by_cases c2 : p + 16 + 12 * U32 F cs cl (p + 12) ≤ cl
    · rw [q_z_t c2]
      refine ⟨fun z => absurd z (by decide), fun _ => ?_⟩
      have fr : q_1 h (q_set h a (e_Cm tc og (nI p) (nI (U32 F cs cl (p + 12))))) a := fun b hb => s_ne _ _ hb
      exact z_Cm_hasGroups (s_set _ _ _) ((fr tc hta).trans hT) (hB.mv (fr f hfa) (fr row hra)) hin c0 c1 c2 q1 (fun z => q0 z _) (U32 F cs cl (p + 12)) 0 (by omega) (fun j hj => absurd hj (by omega))
    · rw [q_z_f c2]
      exact ⟨fun _ => q0' (fun z => c2 z.2.2.1), fun z => absurd rfl z⟩
  · rw [q_z_f c0]
    exact ⟨fun _ => q0' (fun z => c0 z.1), fun z => absurd rfl z⟩
