/-! CharacterMap.glyphOf; Font: width, left -/
def SGr (F : Nat → Nat) (cs cl p S c : Nat) : Nat → Nat → Nat
  | _, 0 => 0
  | k, r + 1 => if s_la' F cs cl p k < c then SGr F cs cl p S c (k + 1) r else if c < s_fi' F cs cl p S k then 0 else SG1 F cs cl p S k c
set_option maxRecDepth 100000 in
set_option maxHeartbeats 4000000 in
theorem z_Cm_glyphBySegments {G : q_G} {l : Launch} {d a tc f row m n sz cs cl p S c : Nat} {og : Int32} {g : Nat → Int32} {F : Nat → Nat} {h : q_H} {Q : q_P} (hA : h a = some (e_Cm tc og (nI p) (nI S))) (hT : q_Ta h tc f cs cl) (hB : q_By h f row m g sz F) (hin : cs + cl ≤ sz) (hp : p ≤ 16384) (hS : S ≤ 32768) (hc : c ≤ 65535) :
    ∀ (r k : Nat), k + r = S → Q (some (.int (nI (SGr F cs cl p S c k r)))) h n → q_Z G l M_Cm_glyphBySegments (d + 4) 0 0 Q 2 [some (.ref a), some (.int (nI c)), some (.int (nI k))] [] h n 0 0 := by
  have hF := hB.2.2.2.2.2.2
  have hA' := hA
  unfold e_Cm at hA'
  intro r
  induction r with
  | zero =>
    intro k hk hq
    refine q_at o_Cm_glyphBySegments [2] 20 l_Cm_glyphBySegments_2 ?_
    simp -implicitDefEqProofs only [s_go, s_nil, s_cons, q_ins, s_op, s_i, s_j, s_a, s_v, s_li, s_lj, s_la, s_liO, s_ljO, s_laO, q_get, q_p1, q_p2, s_n2i, s_n2r, s_n2l, s_n2n, q_pad, q_ar, s_ob, s_obO, q_nth, s_ri, s_riO, s_rb, s_rbO, s_rzO, s_rl, s_rlO, s_rq, s_rqO, s_ry, s_ryO, s_dn, s_tl, s_tn, s_ap, s_an, s_ci, s_cr, s_ni, s_n0, s_n1, q_ags, q_cat, List.contains_nil, List.contains_cons, Nat.reduceBEq, Bool.or_false, Bool.false_or, Bool.true_or, Bool.false_eq_true, ↓reduceIte, Nat.le_refl, Nat.zero_le, true_and, and_true, Nat.reduceLeDiff, Nat.reduceAdd, Nat.add_zero, Nat.zero_add, List.length_cons, List.length_nil, List.set_cons_zero, List.set_cons_succ, Nat.reduceLT, s_fi, s_fl, s_fo, s_fa, s_f0, s_f1, s_set, s_ss, lg_cmp_ge, lg_cmp_le, lg_cmp_gt, lg_cmp_lt, lg_cmp_eq, s_brT, s_brF, s_10, w_Cm_glyphBySegments, r_Cm_glyphBySegments, l_Cm_glyphBySegments_0, l_Cm_glyphBySegments_2, l_Cm_glyphBySegments_32, l_Cm_glyphBySegments_38, l_Cm_glyphBySegments_39, l_Cm_glyphBySegments_45, kc_0, f_1_23, ml_1_64, w_Cm_lastOf, ml_1_67, w_Cm_firstOf, ml_1_79, w_Cm_glyphBySegment, kc_1, hA']
    exact ⟨fun _ => hq, fun c => absurd (nI_le (by omega) (by omega)) c⟩
  | succ r ih =>
    intro k hk hq
    have b1 := U16_lt hF cs cl (p + 14 + 2 * k)
    have b2 := U16_lt hF cs cl (p + 16 + 2 * S + 2 * k)
    have e : SGr F cs cl p S c k (r + 1) = if s_la' F cs cl p k < c then SGr F cs cl p S c (k + 1) r else if c < s_fi' F cs cl p S k then 0 else SG1 F cs cl p S k c := rfl
    rw [e] at hq
    refine q_at o_Cm_glyphBySegments [2] 20 l_Cm_glyphBySegments_2 ?_
    simp -implicitDefEqProofs only [s_go, s_nil, s_cons, q_ins, s_op, s_i, s_j, s_a, s_v, s_li, s_lj, s_la, s_liO, s_ljO, s_laO, q_get, q_p1, q_p2, s_n2i, s_n2r, s_n2l, s_n2n, q_pad, q_ar, s_ob, s_obO, q_nth, s_ri, s_riO, s_rb, s_rbO, s_rzO, s_rl, s_rlO, s_rq, s_rqO, s_ry, s_ryO, s_dn, s_tl, s_tn, s_ap, s_an, s_ci, s_cr, s_ni, s_n0, s_n1, q_ags, q_cat, List.contains_nil, List.contains_cons, Nat.reduceBEq, Bool.or_false, Bool.false_or, Bool.true_or, Bool.false_eq_true, ↓reduceIte, Nat.le_refl, Nat.zero_le, true_and, and_true, Nat.reduceLeDiff, Nat.reduceAdd, Nat.add_zero, Nat.zero_add, List.length_cons, List.length_nil, List.set_cons_zero, List.set_cons_succ, Nat.reduceLT, s_fi, s_fl, s_fo, s_fa, s_f0, s_f1, s_set, s_ss, lg_cmp_ge, lg_cmp_le, lg_cmp_gt, lg_cmp_lt, lg_cmp_eq, s_brT, s_brF, s_10, w_Cm_glyphBySegments, r_Cm_glyphBySegments, l_Cm_glyphBySegments_0, l_Cm_glyphBySegments_2, l_Cm_glyphBySegments_32, l_Cm_glyphBySegments_38, l_Cm_glyphBySegments_39, l_Cm_glyphBySegments_45, kc_0, f_1_23, ml_1_64, w_Cm_lastOf, ml_1_67, w_Cm_firstOf, ml_1_79, w_Cm_glyphBySegment, kc_1, hA']
    refine ⟨fun c => absurd ((nI_leI (by omega) (by omega)).mp c) (by omega), fun _ => ?_⟩
    refine q_c0 (Nat.le_refl _) (Nat.le_refl _) ?_
    refine c_Cm_lastOf hA hT hB hin hp (by omega) ?_
    simp -implicitDefEqProofs only [s_go, s_nil, s_cons, q_ins, s_op, s_i, s_j, s_a, s_v, s_li, s_lj, s_la, s_liO, s_ljO, s_laO, q_get, q_p1, q_p2, s_n2i, s_n2r, s_n2l, s_n2n, q_pad, q_ar, s_ob, s_obO, q_nth, s_ri, s_riO, s_rb, s_rbO, s_rzO, s_rl, s_rlO, s_rq, s_rqO, s_ry, s_ryO, s_dn, s_tl, s_tn, s_ap, s_an, s_ci, s_cr, s_ni, s_n0, s_n1, q_ags, q_cat, List.contains_nil, List.contains_cons, Nat.reduceBEq, Bool.or_false, Bool.false_or, Bool.true_or, Bool.false_eq_true, ↓reduceIte, Nat.le_refl, Nat.zero_le, true_and, and_true, Nat.reduceLeDiff, Nat.reduceAdd, Nat.add_zero, Nat.zero_add, List.length_cons, List.length_nil, List.set_cons_zero, List.set_cons_succ, Nat.reduceLT, s_fi, s_fl, s_fo, s_fa, s_f0, s_f1, s_set, s_ss, lg_cmp_ge, lg_cmp_le, lg_cmp_gt, lg_cmp_lt, lg_cmp_eq, s_brT, s_brF, s_10, w_Cm_glyphBySegments, r_Cm_glyphBySegments, l_Cm_glyphBySegments_0, l_Cm_glyphBySegments_2, l_Cm_glyphBySegments_32, l_Cm_glyphBySegments_38, l_Cm_glyphBySegments_39, l_Cm_glyphBySegments_45, kc_0, f_1_23, ml_1_64, w_Cm_lastOf, ml_1_67, w_Cm_firstOf, ml_1_79, w_Cm_glyphBySegment, kc_1, hA']
    rw [nI_ltI (by omega) (by omega)]
    refine ⟨fun y => ?_, fun y => ?_⟩
    · rw [if_pos (by exact y)] at hq
      rw [nI_1]
      exact ih (k + 1) (by omega) hq
    · rw [if_neg (by exact y)] at hq
      refine q_c0 (Nat.le_refl _) (Nat.le_refl _) ?_
      refine c_Cm_firstOf hA hT hB hin hp (by omega) (by omega) ?_
      simp -implicitDefEqProofs only [s_go, s_nil, s_cons, q_ins, s_op, s_i, s_j, s_a, s_v, s_li, s_lj, s_la, s_liO, s_ljO, s_laO, q_get, q_p1, q_p2, s_n2i, s_n2r, s_n2l, s_n2n, q_pad, q_ar, s_ob, s_obO, q_nth, s_ri, s_riO, s_rb, s_rbO, s_rzO, s_rl, s_rlO, s_rq, s_rqO, s_ry, s_ryO, s_dn, s_tl, s_tn, s_ap, s_an, s_ci, s_cr, s_ni, s_n0, s_n1, q_ags, q_cat, List.contains_nil, List.contains_cons, Nat.reduceBEq, Bool.or_false, Bool.false_or, Bool.true_or, Bool.false_eq_true, ↓reduceIte, Nat.le_refl, Nat.zero_le, true_and, and_true, Nat.reduceLeDiff, Nat.reduceAdd, Nat.add_zero, Nat.zero_add, List.length_cons, List.length_nil, List.set_cons_zero, List.set_cons_succ, Nat.reduceLT, s_fi, s_fl, s_fo, s_fa, s_f0, s_f1, s_set, s_ss, lg_cmp_ge, lg_cmp_le, lg_cmp_gt, lg_cmp_lt, lg_cmp_eq, s_brT, s_brF, s_10, w_Cm_glyphBySegments, r_Cm_glyphBySegments, l_Cm_glyphBySegments_0, l_Cm_glyphBySegments_2, l_Cm_glyphBySegments_32, l_Cm_glyphBySegments_38, l_Cm_glyphBySegments_39, l_Cm_glyphBySegments_45, kc_0, f_1_23, ml_1_64, w_Cm_lastOf, ml_1_67, w_Cm_firstOf, ml_1_79, w_Cm_glyphBySegment, kc_1, hA']
      rw [nI_leI (by omega) (by omega)]
      refine ⟨fun y1 => ?_, fun y1 => ?_⟩
      · rw [if_neg (by show ¬ c < U16 F cs cl (p + 16 + 2 * S + 2 * k); omega)] at hq
        refine q_c0 (Nat.le_refl _) (Nat.le_refl _) ?_
        refine c_Cm_glyphBySegment hA hT hB hin hp hS (by omega) hc y1 ?_
        simp -implicitDefEqProofs only [s_go, s_nil, s_cons, q_ins, s_op, s_i, s_j, s_a, s_v, s_li, s_lj, s_la, s_liO, s_ljO, s_laO, q_get, q_p1, q_p2, s_n2i, s_n2r, s_n2l, s_n2n, q_pad, q_ar, s_ob, s_obO, q_nth, s_ri, s_riO, s_rb, s_rbO, s_rzO, s_rl, s_rlO, s_rq, s_rqO, s_ry, s_ryO, s_dn, s_tl, s_tn, s_ap, s_an, s_ci, s_cr, s_ni, s_n0, s_n1, q_ags, q_cat, List.contains_nil, List.contains_cons, Nat.reduceBEq, Bool.or_false, Bool.false_or, Bool.true_or, Bool.false_eq_true, ↓reduceIte, Nat.le_refl, Nat.zero_le, true_and, and_true, Nat.reduceLeDiff, Nat.reduceAdd, Nat.add_zero, Nat.zero_add, List.length_cons, List.length_nil, List.set_cons_zero, List.set_cons_succ, Nat.reduceLT, s_fi, s_fl, s_fo, s_fa, s_f0, s_f1, s_set, s_ss, lg_cmp_ge, lg_cmp_le, lg_cmp_gt, lg_cmp_lt, lg_cmp_eq, s_brT, s_brF, s_10, w_Cm_glyphBySegments, r_Cm_glyphBySegments, l_Cm_glyphBySegments_0, l_Cm_glyphBySegments_2, l_Cm_glyphBySegments_32, l_Cm_glyphBySegments_38, l_Cm_glyphBySegments_39, l_Cm_glyphBySegments_45, kc_0, f_1_23, ml_1_64, w_Cm_lastOf, ml_1_67, w_Cm_firstOf, ml_1_79, w_Cm_glyphBySegment, kc_1]
        exact hq
      · rw [if_pos (by show c < U16 F cs cl (p + 16 + 2 * S + 2 * k); omega)] at hq
        exact hq
set_option maxRecDepth 100000 in
set_option maxHeartbeats 4000000 in
theorem c_Cm_glyphBySegments {G : q_G} {l : Launch} {d a tc f row m n sz cs cl p S c : Nat} {og : Int32} {g : Nat → Int32} {F : Nat → Nat} {h : q_H} {Q : q_P} (hA : h a = some (e_Cm tc og (nI p) (nI S))) (hT : q_Ta h tc f cs cl) (hB : q_By h f row m g sz F) (hin : cs + cl ≤ sz) (hp : p ≤ 16384) (hS : S ≤ 32768) (hc : c ≤ 65535) (hq : Q (some (.int (nI (SGr F cs cl p S c 0 S)))) h n) : q_Call G l M_Cm_glyphBySegments (d + 4) 0 0 [.ref a, .int (nI c)] h n Q := by
  refine q_in u_Cm_glyphBySegments (by rw [L_Cm_glyphBySegments]; exact Nat.le_of_ble_eq_true rfl) ?_
  rw [L_Cm_glyphBySegments]
  refine q_at o_Cm_glyphBySegments [2] 20 l_Cm_glyphBySegments_0 ?_
  simp -implicitDefEqProofs only [s_go, s_nil, s_cons, q_ins, s_op, s_i, s_j, s_a, s_v, s_li, s_lj, s_la, s_liO, s_ljO, s_laO, q_get, q_p1, q_p2, s_n2i, s_n2r, s_n2l, s_n2n, q_pad, q_ar, s_ob, s_obO, q_nth, s_ri, s_riO, s_rb, s_rbO, s_rzO, s_rl, s_rlO, s_rq, s_rqO, s_ry, s_ryO, s_dn, s_tl, s_tn, s_ap, s_an, s_ci, s_cr, s_ni, s_n0, s_n1, q_ags, q_cat, List.contains_nil, List.contains_cons, Nat.reduceBEq, Bool.or_false, Bool.false_or, Bool.true_or, Bool.false_eq_true, ↓reduceIte, Nat.le_refl, Nat.zero_le, true_and, and_true, Nat.reduceLeDiff, Nat.reduceAdd, Nat.add_zero, Nat.zero_add, List.length_cons, List.length_nil, List.set_cons_zero, List.set_cons_succ, Nat.reduceLT, s_fi, s_fl, s_fo, s_fa, s_f0, s_f1, s_set, s_ss, lg_cmp_ge, lg_cmp_le, lg_cmp_gt, lg_cmp_lt, lg_cmp_eq, s_brT, s_brF, s_10, w_Cm_glyphBySegments, r_Cm_glyphBySegments, l_Cm_glyphBySegments_0, l_Cm_glyphBySegments_2, l_Cm_glyphBySegments_32, l_Cm_glyphBySegments_38, l_Cm_glyphBySegments_39, l_Cm_glyphBySegments_45, kc_0, f_1_23, ml_1_64, w_Cm_lastOf, ml_1_67, w_Cm_firstOf, ml_1_79, w_Cm_glyphBySegment, kc_1]
  exact z_Cm_glyphBySegments hA hT hB hin hp hS hc S 0 (by omega) hq
theorem SG1_lt (F : Nat → Nat) (cs cl p S k c : Nat) : SG1 F cs cl p S k c < 65536 := by
  unfold SG1
  split
  · omega
  · split <;> omega
theorem SGr_lt (F : Nat → Nat) (cs cl p S c : Nat) : ∀ r k, SGr F cs cl p S c k r < 65536
  | 0, k => by unfold SGr; omega
  | r + 1, k => by
    unfold SGr
    split
    · exact SGr_lt F cs cl p S c r (k + 1)
    · split
      · omega
      · exact SG1_lt F cs cl p S k c
theorem GGr_lt (F : Nat → Nat) (cs cl p c : Nat) : ∀ r k, GGr F cs cl p c k r < 4294967296
  | 0, k => by unfold GGr; omega
  | r + 1, k => by
    unfold GGr
    split
    · omega
    · exact GGr_lt F cs cl p c r (k + 1)
/-- as the map has it: w: one of 3, 10; p its place, N its groups or segments -/
def GLY (F : Nat → Nat) (cs cl : Nat) (w : Bool) (p N c : Nat) : Nat := if w = true then GGr F cs cl p c 0 N else if c ≤ 65535 then SGr F cs cl p N c 0 N else 0
set_option maxRecDepth 100000 in
set_option maxHeartbeats 4000000 in
theorem c_Cm_glyphOf {G : q_G} {l : Launch} {d a tc f row m n sz cs cl p N c : Nat} {w : Bool} {g : Nat → Int32} {F : Nat → Nat} {h : q_H} {Q : q_P} (hA : h a = some (e_Cm tc (if w = true then 1 else 0) (nI p) (nI N))) (hT : q_Ta h tc f cs cl) (hB : q_By h f row m g sz F) (hin : cs + cl ≤ sz) (hp : p ≤ 16384) (hN : N ≤ 16384) (hc : c ≤ 1114111) (hq : Q (some (.long (lN (GLY F cs cl w p N c)))) h n) : q_Call G l M_Cm_glyphOf (d + 5) 0 0 [.ref a, .int (nI c)] h n Q := by
  have hA' := hA
  unfold e_Cm at hA'
  unfold GLY at hq
  refine q_in u_Cm_glyphOf (by rw [L_Cm_glyphOf]; exact Nat.le_of_ble_eq_true rfl) ?_
  rw [L_Cm_glyphOf]
  refine q_at o_Cm_glyphOf [] 20 l_Cm_glyphOf_0 ?_
  cases w with
  | true =>
    simp -implicitDefEqProofs only [s_go, s_nil, s_cons, q_ins, s_op, s_i, s_j, s_a, s_v, s_li, s_lj, s_la, s_liO, s_ljO, s_laO, q_get, q_p1, q_p2, s_n2i, s_n2r, s_n2l, s_n2n, q_pad, q_ar, s_ob, s_obO, q_nth, s_ri, s_riO, s_rb, s_rbO, s_rzO, s_rl, s_rlO, s_rq, s_rqO, s_ry, s_ryO, s_dn, s_tl, s_tn, s_ap, s_an, s_ci, s_cr, s_ni, s_n0, s_n1, q_ags, q_cat, List.contains_nil, List.contains_cons, Nat.reduceBEq, Bool.or_false, Bool.false_or, Bool.true_or, Bool.false_eq_true, ↓reduceIte, Nat.le_refl, Nat.zero_le, true_and, and_true, Nat.reduceLeDiff, Nat.reduceAdd, Nat.add_zero, Nat.zero_add, List.length_cons, List.length_nil, List.set_cons_zero, List.set_cons_succ, Nat.reduceLT, s_fi, s_fl, s_fo, s_fa, s_f0, s_f1, s_set, s_ss, lg_cmp_ge, lg_cmp_le, lg_cmp_gt, lg_cmp_lt, lg_cmp_eq, s_brT, s_brF, s_10, w_Cm_glyphOf, r_Cm_glyphOf, l_Cm_glyphOf_0, l_Cm_glyphOf_13, l_Cm_glyphOf_28, l_Cm_glyphOf_29, f_1_15, ml_1_71, w_Cm_glyphByGroups, ki_1_70, ml_1_74, w_Cm_glyphBySegments, kj_0, hA']
    refine q_c0 (Nat.le_refl _) (Nat.le_refl _) ?_
    refine c_Cm_glyphByGroups hA hT hB hin hp hN hc ?_
    simp -implicitDefEqProofs only [s_go, s_nil, s_cons, q_ins, s_op, s_i, s_j, s_a, s_v, s_li, s_lj, s_la, s_liO, s_ljO, s_laO, q_get, q_p1, q_p2, s_n2i, s_n2r, s_n2l, s_n2n, q_pad, q_ar, s_ob, s_obO, q_nth, s_ri, s_riO, s_rb, s_rbO, s_rzO, s_rl, s_rlO, s_rq, s_rqO, s_ry, s_ryO, s_dn, s_tl, s_tn, s_ap, s_an, s_ci, s_cr, s_ni, s_n0, s_n1, q_ags, q_cat, List.contains_nil, List.contains_cons, Nat.reduceBEq, Bool.or_false, Bool.false_or, Bool.true_or, Bool.false_eq_true, ↓reduceIte, Nat.le_refl, Nat.zero_le, true_and, and_true, Nat.reduceLeDiff, Nat.reduceAdd, Nat.add_zero, Nat.zero_add, List.length_cons, List.length_nil, List.set_cons_zero, List.set_cons_succ, Nat.reduceLT, s_fi, s_fl, s_fo, s_fa, s_f0, s_f1, s_set, s_ss, lg_cmp_ge, lg_cmp_le, lg_cmp_gt, lg_cmp_lt, lg_cmp_eq, s_brT, s_brF, s_10, w_Cm_glyphOf, r_Cm_glyphOf, l_Cm_glyphOf_0, l_Cm_glyphOf_13, l_Cm_glyphOf_28, l_Cm_glyphOf_29, f_1_15, ml_1_71, w_Cm_glyphByGroups, ki_1_70, ml_1_74, w_Cm_glyphBySegments, kj_0]
    exact hq
  | false =>
    simp -implicitDefEqProofs only [s_go, s_nil, s_cons, q_ins, s_op, s_i, s_j, s_a, s_v, s_li, s_lj, s_la, s_liO, s_ljO, s_laO, q_get, q_p1, q_p2, s_n2i, s_n2r, s_n2l, s_n2n, q_pad, q_ar, s_ob, s_obO, q_nth, s_ri, s_riO, s_rb, s_rbO, s_rzO, s_rl, s_rlO, s_rq, s_rqO, s_ry, s_ryO, s_dn, s_tl, s_tn, s_ap, s_an, s_ci, s_cr, s_ni, s_n0, s_n1, q_ags, q_cat, List.contains_nil, List.contains_cons, Nat.reduceBEq, Bool.or_false, Bool.false_or, Bool.true_or, Bool.false_eq_true, ↓reduceIte, Nat.le_refl, Nat.zero_le, true_and, and_true, Nat.reduceLeDiff, Nat.reduceAdd, Nat.add_zero, Nat.zero_add, List.length_cons, List.length_nil, List.set_cons_zero, List.set_cons_succ, Nat.reduceLT, s_fi, s_fl, s_fo, s_fa, s_f0, s_f1, s_set, s_ss, lg_cmp_ge, lg_cmp_le, lg_cmp_gt, lg_cmp_lt, lg_cmp_eq, s_brT, s_brF, s_10, w_Cm_glyphOf, r_Cm_glyphOf, l_Cm_glyphOf_0, l_Cm_glyphOf_13, l_Cm_glyphOf_28, l_Cm_glyphOf_29, f_1_15, ml_1_71, w_Cm_glyphByGroups, ki_1_70, ml_1_74, w_Cm_glyphBySegments, kj_0, hA']
    rw [show (65535 : Int32) = nI 65535 from rfl, nI_ltI (by omega) (by omega)]
    refine ⟨fun y => ?_, fun y => ?_⟩
    · rw [if_neg (by decide), if_neg (by omega)] at hq
      exact hq
    · rw [if_neg (by decide), if_pos (by omega)] at hq
      refine q_c0 (Nat.le_refl _) (Nat.le_refl _) ?_
      refine c_Cm_glyphBySegments hA hT hB hin hp (by omega) (by omega) ?_
      have := SGr_lt F cs cl p N c N 0
      simp -implicitDefEqProofs only [s_go, s_nil, s_cons, q_ins, s_op, s_i, s_j, s_a, s_v, s_li, s_lj, s_la, s_liO, s_ljO, s_laO, q_get, q_p1, q_p2, s_n2i, s_n2r, s_n2l, s_n2n, q_pad, q_ar, s_ob, s_obO, q_nth, s_ri, s_riO, s_rb, s_rbO, s_rzO, s_rl, s_rlO, s_rq, s_rqO, s_ry, s_ryO, s_dn, s_tl, s_tn, s_ap, s_an, s_ci, s_cr, s_ni, s_n0, s_n1, q_ags, q_cat, List.contains_nil, List.contains_cons, Nat.reduceBEq, Bool.or_false, Bool.false_or, Bool.true_or, Bool.false_eq_true, ↓reduceIte, Nat.le_refl, Nat.zero_le, true_and, and_true, Nat.reduceLeDiff, Nat.reduceAdd, Nat.add_zero, Nat.zero_add, List.length_cons, List.length_nil, List.set_cons_zero, List.set_cons_succ, Nat.reduceLT, s_fi, s_fl, s_fo, s_fa, s_f0, s_f1, s_set, s_ss, lg_cmp_ge, lg_cmp_le, lg_cmp_gt, lg_cmp_lt, lg_cmp_eq, s_brT, s_brF, s_10, w_Cm_glyphOf, r_Cm_glyphOf, l_Cm_glyphOf_0, l_Cm_glyphOf_13, l_Cm_glyphOf_28, l_Cm_glyphOf_29, f_1_15, ml_1_71, w_Cm_glyphByGroups, ki_1_70, ml_1_74, w_Cm_glyphBySegments, kj_0, nI_l (show SGr F cs cl p N c 0 N < 2 ^ 31 by omega)]
      exact hq
/-- WIDTH and LEFT of glyph k: hmtx (ms, ml), of H long ones -/
def WID (F : Nat → Nat) (ms ml H k : Nat) : Nat := U16 F ms ml (4 * (if k < H then k else H - 1))
def LEF (F : Nat → Nat) (ms ml H k : Nat) : Int := if k < H then S16 (U16 F ms ml (4 * k + 2)) else S16 (U16 F ms ml (4 * H + 2 * (k - H)))
set_option maxRecDepth 100000 in
set_option maxHeartbeats 4000000 in
theorem c_Fo_widthOf {G : q_G} {l : Launch} {d o row m n sz ms' ml H k : Nat} {em gl lp : Int32} {g : Nat → Int32} {F : Nat → Nat} {h : q_H} {Q : q_P} (hO : h o = some (e_Fo o em gl (nI H) lp)) (hB : q_By h (o + 1) row m g sz F) (hM : q_Ta h (o + 9) (o + 1) ms' ml) (b1 : ms' + ml ≤ sz) (hH : 1 ≤ H ∧ H ≤ 256) (hk : k ≤ 256) (hq : Q (some (.int (nI (WID F ms' ml H k)))) h n) : q_Call G l M_Fo_widthOf (d + 2) 0 0 [.ref o, .int (nI k)] h n Q := by
  have hO' := hO
  unfold e_Fo at hO'
  have hM' : h (o + 9) = some (.inr (6, [.ref (o + 1), .int (nI ms'), .int (nI ml)])) := hM
  unfold WID at hq
  refine q_in u_Fo_widthOf (by rw [L_Fo_widthOf]; exact Nat.le_of_ble_eq_true rfl) ?_
  rw [L_Fo_widthOf]
  refine q_at o_Fo_widthOf [] 20 l_Fo_widthOf_0 ?_
  simp -implicitDefEqProofs only [s_go, s_nil, s_cons, q_ins, s_op, s_i, s_j, s_a, s_v, s_li, s_lj, s_la, s_liO, s_ljO, s_laO, q_get, q_p1, q_p2, s_n2i, s_n2r, s_n2l, s_n2n, q_pad, q_ar, s_ob, s_obO, q_nth, s_ri, s_riO, s_rb, s_rbO, s_rzO, s_rl, s_rlO, s_rq, s_rqO, s_ry, s_ryO, s_dn, s_tl, s_tn, s_ap, s_an, s_ci, s_cr, s_ni, s_n0, s_n1, q_ags, q_cat, List.contains_nil, List.contains_cons, Nat.reduceBEq, Bool.or_false, Bool.false_or, Bool.true_or, Bool.false_eq_true, ↓reduceIte, Nat.le_refl, Nat.zero_le, true_and, and_true, Nat.reduceLeDiff, Nat.reduceAdd, Nat.add_zero, Nat.zero_add, List.length_cons, List.length_nil, List.set_cons_zero, List.set_cons_succ, Nat.reduceLT, s_fi, s_fl, s_fo, s_fa, s_f0, s_f1, s_set, s_ss, lg_cmp_ge, lg_cmp_le, lg_cmp_gt, lg_cmp_lt, lg_cmp_eq, s_brT, s_brF, s_10, w_Fo_widthOf, r_Fo_widthOf, l_Fo_widthOf_0, f_3_42, kc_4, f_3_146, kc_1, mm_3_152, q_ac_no_3_152, ml_3_90, w_Ta_u16, hO', hM']
  rw [show nI H - 1 = nI (H - 1) from pk_sub (b := 1) hH.1]
  have key : (if nI (H - 1) < nI k then nI (H - 1) else nI k) = nI (if k < H then k else H - 1) := by
    by_cases y : k < H
    · rw [if_pos y, if_neg (nI_nlt (by omega) (by omega))]
    · rw [if_neg y]
      by_cases y2 : H - 1 < k
      · rw [if_pos ((nI_ltI (by omega) (by omega)).mpr y2)]
      · omega
  rw [key, show (4 : Int32) * nI (if k < H then k else H - 1) = nI (4 * (if k < H then k else H - 1)) from pk_mul 4 _]
  have hb : (if k < H then k else H - 1) ≤ 256 := by split <;> omega
  refine q_c0 (Nat.le_refl _) (Nat.le_refl _) ?_
  refine c_Ta_u16 hM hB b1 (by omega) ?_
  simp -implicitDefEqProofs only [s_go, s_nil, s_cons, q_ins, s_op, s_i, s_j, s_a, s_v, s_li, s_lj, s_la, s_liO, s_ljO, s_laO, q_get, q_p1, q_p2, s_n2i, s_n2r, s_n2l, s_n2n, q_pad, q_ar, s_ob, s_obO, q_nth, s_ri, s_riO, s_rb, s_rbO, s_rzO, s_rl, s_rlO, s_rq, s_rqO, s_ry, s_ryO, s_dn, s_tl, s_tn, s_ap, s_an, s_ci, s_cr, s_ni, s_n0, s_n1, q_ags, q_cat, List.contains_nil, List.contains_cons, Nat.reduceBEq, Bool.or_false, Bool.false_or, Bool.true_or, Bool.false_eq_true, ↓reduceIte, Nat.le_refl, Nat.zero_le, true_and, and_true, Nat.reduceLeDiff, Nat.reduceAdd, Nat.add_zero, Nat.zero_add, List.length_cons, List.length_nil, List.set_cons_zero, List.set_cons_succ, Nat.reduceLT, s_fi, s_fl, s_fo, s_fa, s_f0, s_f1, s_set, s_ss, lg_cmp_ge, lg_cmp_le, lg_cmp_gt, lg_cmp_lt, lg_cmp_eq, s_brT, s_brF, s_10, w_Fo_widthOf, r_Fo_widthOf, l_Fo_widthOf_0, f_3_42, kc_4, f_3_146, kc_1, mm_3_152, q_ac_no_3_152, ml_3_90, w_Ta_u16]
  exact hq
set_option maxRecDepth 100000 in
set_option maxHeartbeats 4000000 in
theorem c_Fo_leftOf {G : q_G} {l : Launch} {d o row m n sz ms' ml H k : Nat} {em gl lp : Int32} {g : Nat → Int32} {F : Nat → Nat} {h : q_H} {Q : q_P} (hO : h o = some (e_Fo o em gl (nI H) lp)) (hB : q_By h (o + 1) row m g sz F) (hM : q_Ta h (o + 9) (o + 1) ms' ml) (b1 : ms' + ml ≤ sz) (hH : 1 ≤ H ∧ H ≤ 256) (hk : k ≤ 256) (hq : Q (some (.int (iI (LEF F ms' ml H k)))) h n) : q_Call G l M_Fo_leftOf (d + 3) 0 0 [.ref o, .int (nI k)] h n Q := by
  have hO' := hO
  unfold e_Fo at hO'
  have hM' : h (o + 9) = some (.inr (6, [.ref (o + 1), .int (nI ms'), .int (nI ml)])) := hM
  unfold LEF at hq
  refine q_in u_Fo_leftOf (by rw [L_Fo_leftOf]; exact Nat.le_of_ble_eq_true rfl) ?_
  rw [L_Fo_leftOf]
  refine q_at o_Fo_leftOf [] 20 l_Fo_leftOf_0 ?_
  simp -implicitDefEqProofs only [s_go, s_nil, s_cons, q_ins, s_op, s_i, s_j, s_a, s_v, s_li, s_lj, s_la, s_liO, s_ljO, s_laO, q_get, q_p1, q_p2, s_n2i, s_n2r, s_n2l, s_n2n, q_pad, q_ar, s_ob, s_obO, q_nth, s_ri, s_riO, s_rb, s_rbO, s_rzO, s_rl, s_rlO, s_rq, s_rqO, s_ry, s_ryO, s_dn, s_tl, s_tn, s_ap, s_an, s_ci, s_cr, s_ni, s_n0, s_n1, q_ags, q_cat, List.contains_nil, List.contains_cons, Nat.reduceBEq, Bool.or_false, Bool.false_or, Bool.true_or, Bool.false_eq_true, ↓reduceIte, Nat.le_refl, Nat.zero_le, true_and, and_true, Nat.reduceLeDiff, Nat.reduceAdd, Nat.add_zero, Nat.zero_add, List.length_cons, List.length_nil, List.set_cons_zero, List.set_cons_succ, Nat.reduceLT, s_fi, s_fl, s_fo, s_fa, s_f0, s_f1, s_set, s_ss, lg_cmp_ge, lg_cmp_le, lg_cmp_gt, lg_cmp_lt, lg_cmp_eq, s_brT, s_brF, s_10, w_Fo_leftOf, r_Fo_leftOf, l_Fo_leftOf_0, l_Fo_leftOf_23, l_Fo_leftOf_45, f_3_146, f_3_42, kc_4, kc_2, ml_3_158, w_Ta_s16, hO', hM']
  rw [nI_leI (by omega) (by omega)]
  refine ⟨fun y => ?_, fun y => ?_⟩
  · rw [if_neg (by omega)] at hq
    rw [show nI k - nI H = nI (k - H) from pk_sub y, show (4 : Int32) * nI H = nI (4 * H) from pk_mul 4 H, show (2 : Int32) * nI (k - H) = nI (2 * (k - H)) from pk_mul 2 _, nI_add]
    refine q_c0 (Nat.le_refl _) (Nat.le_refl _) ?_
    refine c_Ta_s16 hM hB b1 (by omega) ?_
    simp -implicitDefEqProofs only [s_go, s_nil, s_cons, q_ins, s_op, s_i, s_j, s_a, s_v, s_li, s_lj, s_la, s_liO, s_ljO, s_laO, q_get, q_p1, q_p2, s_n2i, s_n2r, s_n2l, s_n2n, q_pad, q_ar, s_ob, s_obO, q_nth, s_ri, s_riO, s_rb, s_rbO, s_rzO, s_rl, s_rlO, s_rq, s_rqO, s_ry, s_ryO, s_dn, s_tl, s_tn, s_ap, s_an, s_ci, s_cr, s_ni, s_n0, s_n1, q_ags, q_cat, List.contains_nil, List.contains_cons, Nat.reduceBEq, Bool.or_false, Bool.false_or, Bool.true_or, Bool.false_eq_true, ↓reduceIte, Nat.le_refl, Nat.zero_le, true_and, and_true, Nat.reduceLeDiff, Nat.reduceAdd, Nat.add_zero, Nat.zero_add, List.length_cons, List.length_nil, List.set_cons_zero, List.set_cons_succ, Nat.reduceLT, s_fi, s_fl, s_fo, s_fa, s_f0, s_f1, s_set, s_ss, lg_cmp_ge, lg_cmp_le, lg_cmp_gt, lg_cmp_lt, lg_cmp_eq, s_brT, s_brF, s_10, w_Fo_leftOf, r_Fo_leftOf, l_Fo_leftOf_0, l_Fo_leftOf_23, l_Fo_leftOf_45, f_3_146, f_3_42, kc_4, kc_2, ml_3_158, w_Ta_s16]
    exact hq
  · rw [if_pos (by omega)] at hq
    rw [show (4 : Int32) * nI k = nI (4 * k) from pk_mul 4 k, show nI (4 * k) + 2 = nI (4 * k + 2) from nI_add _ 2]
    refine q_c0 (Nat.le_refl _) (Nat.le_refl _) ?_
    refine c_Ta_s16 hM hB b1 (by omega) ?_
    simp -implicitDefEqProofs only [s_go, s_nil, s_cons, q_ins, s_op, s_i, s_j, s_a, s_v, s_li, s_lj, s_la, s_liO, s_ljO, s_laO, q_get, q_p1, q_p2, s_n2i, s_n2r, s_n2l, s_n2n, q_pad, q_ar, s_ob, s_obO, q_nth, s_ri, s_riO, s_rb, s_rbO, s_rzO, s_rl, s_rlO, s_rq, s_rqO, s_ry, s_ryO, s_dn, s_tl, s_tn, s_ap, s_an, s_ci, s_cr, s_ni, s_n0, s_n1, q_ags, q_cat, List.contains_nil, List.contains_cons, Nat.reduceBEq, Bool.or_false, Bool.false_or, Bool.true_or, Bool.false_eq_true, ↓reduceIte, Nat.le_refl, Nat.zero_le, true_and, and_true, Nat.reduceLeDiff, Nat.reduceAdd, Nat.add_zero, Nat.zero_add, List.length_cons, List.length_nil, List.set_cons_zero, List.set_cons_succ, Nat.reduceLT, s_fi, s_fl, s_fo, s_fa, s_f0, s_f1, s_set, s_ss, lg_cmp_ge, lg_cmp_le, lg_cmp_gt, lg_cmp_lt, lg_cmp_eq, s_brT, s_brF, s_10, w_Fo_leftOf, r_Fo_leftOf, l_Fo_leftOf_0, l_Fo_leftOf_23, l_Fo_leftOf_45, f_3_146, f_3_42, kc_4, kc_2, ml_3_158, w_Ta_s16]
    exact hq
