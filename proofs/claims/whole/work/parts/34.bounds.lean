/-! Outline.least, greatest -/
theorem q_ilt {a b : Int} (ha : q_co a) (hb : q_co b) : iI a < iI b ↔ a < b := by
  obtain ⟨a1, a2⟩ := ha
  obtain ⟨b1, b2⟩ := hb
  rw [Int32.lt_iff_toInt_lt, iI_toInt (by omega) (by omega), iI_toInt (by omega) (by omega)]
def MN (f : Nat → Int) : Nat → Int
  | 0 => f 0
  | k + 1 => if f (k + 1) < MN f k then f (k + 1) else MN f k
def MX (f : Nat → Int) : Nat → Int
  | 0 => f 0
  | k + 1 => if MX f k < f (k + 1) then f (k + 1) else MX f k
def LST (f : Nat → Int) (k : Nat) : Int := if k = 0 then 0 else MN f (k - 1)
def GRT (f : Nat → Int) (k : Nat) : Int := if k = 0 then 0 else MX f (k - 1)
theorem MN_co {f : Nat → Int} : ∀ k, (∀ j, j ≤ k → q_co (f j)) → q_co (MN f k)
  | 0, h => h 0 (Nat.le_refl _)
  | k + 1, h => by
    unfold MN
    split
    · exact h _ (Nat.le_refl _)
    · exact MN_co k (fun j hj => h j (by omega))
theorem MX_co {f : Nat → Int} : ∀ k, (∀ j, j ≤ k → q_co (f j)) → q_co (MX f k)
  | 0, h => h 0 (Nat.le_refl _)
  | k + 1, h => by
    unfold MX
    split
    · exact h _ (Nat.le_refl _)
    · exact MX_co k (fun j hj => h j (by omega))
set_option maxRecDepth 100000 in
set_option maxHeartbeats 4000000 in
theorem z_Ou_least {G : q_G} {l : Launch} {d u a n k : Nat} {cts prd wg : Int32} {gx : Nat → Int32} {f : Nat → Int} {h : q_H} {Q : q_P} (hO : h u = some (e_Ou u (nI k) cts prd wg)) (hk : k ≤ 512) (hA : q_ar5 h a gx) (hf : ∀ j, j < k → gx j = iI (f j) ∧ q_co (f j)) (q1 : Q (some (.int (iI (MN f (k - 1))))) h n) : ∀ (r i : Nat), i + 1 + r = k → q_Z G l M_Ou_least (d + 1) 0 0 Q 15 [some (.ref u), some (.ref a), some (.int (iI (MN f i))), some (.int (nI (i + 1)))] [] h n 0 0 := by
  have hO' := hO
  unfold e_Ou at hO'
  have hA' : h a = some (.inl (0, 512, .inl gx)) := hA
  intro r
  induction r with
  | zero =>
    intro i hi
    subst hi
    refine q_at o_Ou_least [15] 20 l_Ou_least_15 ?_
    simp -implicitDefEqProofs only [s_go, s_nil, s_cons, q_ins, s_op, s_i, s_j, s_a, s_v, s_li, s_lj, s_la, s_liO, s_ljO, s_laO, q_get, q_p1, q_p2, s_n2i, s_n2r, s_n2l, s_n2n, q_pad, q_ar, s_ob, s_obO, q_nth, s_ri, s_riO, s_rb, s_rbO, s_rzO, s_rl, s_rlO, s_rq, s_rqO, s_ry, s_ryO, s_dn, s_tl, s_tn, s_ap, s_an, s_ci, s_cr, s_ni, s_n0, s_n1, q_ags, q_cat, List.contains_nil, List.contains_cons, Nat.reduceBEq, Bool.or_false, Bool.false_or, Bool.true_or, Bool.false_eq_true, ↓reduceIte, Nat.le_refl, Nat.zero_le, true_and, and_true, Nat.reduceLeDiff, Nat.reduceAdd, Nat.add_zero, Nat.zero_add, List.length_cons, List.length_nil, List.set_cons_zero, List.set_cons_succ, Nat.reduceLT, s_fi, s_fl, s_fo, s_fa, s_f0, s_f1, s_set, s_ss, lg_cmp_ge, lg_cmp_le, lg_cmp_gt, lg_cmp_lt, lg_cmp_eq, s_brT, s_brF, s_10, w_Ou_least, r_Ou_least, l_Ou_least_0, l_Ou_least_9, l_Ou_least_15, l_Ou_least_37, f_4_50, kc_0, kc_1, mm_4_145, q_ac_no_4_145, hO']
    exact ⟨fun _ => q1, fun c => absurd (nI_le (Nat.le_refl _) (by omega)) c⟩
  | succ r ih =>
    intro i hi
    have e1 := (hf (i + 1) (by omega)).1
    have c1 := (hf (i + 1) (by omega)).2
    have c2 := MN_co i (fun j hj => (hf j (by omega)).2)
    refine q_at o_Ou_least [15] 20 l_Ou_least_15 ?_
    simp -implicitDefEqProofs only [s_go, s_nil, s_cons, q_ins, s_op, s_i, s_j, s_a, s_v, s_li, s_lj, s_la, s_liO, s_ljO, s_laO, q_get, q_p1, q_p2, s_n2i, s_n2r, s_n2l, s_n2n, q_pad, q_ar, s_ob, s_obO, q_nth, s_ri, s_riO, s_rb, s_rbO, s_rzO, s_rl, s_rlO, s_rq, s_rqO, s_ry, s_ryO, s_dn, s_tl, s_tn, s_ap, s_an, s_ci, s_cr, s_ni, s_n0, s_n1, q_ags, q_cat, List.contains_nil, List.contains_cons, Nat.reduceBEq, Bool.or_false, Bool.false_or, Bool.true_or, Bool.false_eq_true, ↓reduceIte, Nat.le_refl, Nat.zero_le, true_and, and_true, Nat.reduceLeDiff, Nat.reduceAdd, Nat.add_zero, Nat.zero_add, List.length_cons, List.length_nil, List.set_cons_zero, List.set_cons_succ, Nat.reduceLT, s_fi, s_fl, s_fo, s_fa, s_f0, s_f1, s_set, s_ss, lg_cmp_ge, lg_cmp_le, lg_cmp_gt, lg_cmp_lt, lg_cmp_eq, s_brT, s_brF, s_10, w_Ou_least, r_Ou_least, l_Ou_least_0, l_Ou_least_9, l_Ou_least_15, l_Ou_least_37, f_4_50, kc_0, kc_1, mm_4_145, q_ac_no_4_145, hO', hA', nI_clamp (show i + 1 < 2 ^ 31 by omega), e1, nI_1]
    refine ⟨fun c => absurd ((nI_leI (by omega) (by omega)).mp c) (by omega), fun _ => ⟨vp_in_nI (by omega) (by omega), ?_⟩⟩
    have e2 : (if iI (f (i + 1)) < iI (MN f i) then iI (f (i + 1)) else iI (MN f i)) = iI (MN f (i + 1)) := by
      show _ = iI (if f (i + 1) < MN f i then f (i + 1) else MN f i)
      by_cases q : f (i + 1) < MN f i
      · rw [if_pos q, if_pos ((q_ilt c1 c2).mpr q)]
      · rw [if_neg q, if_neg (fun y => q ((q_ilt c1 c2).mp y))]
    rw [e2]
    exact ih (i + 1) (by omega)
set_option maxRecDepth 100000 in
set_option maxHeartbeats 4000000 in
theorem c_Ou_least {G : q_G} {l : Launch} {d u a n k : Nat} {cts prd wg : Int32} {gx : Nat → Int32} {f : Nat → Int} {h : q_H} {Q : q_P} (hO : h u = some (e_Ou u (nI k) cts prd wg)) (hk : k ≤ 512) (hA : q_ar5 h a gx) (hf : ∀ j, j < k → gx j = iI (f j) ∧ q_co (f j)) (q1 : Q (some (.int (iI (LST f k)))) h n) : q_Call G l M_Ou_least (d + 1) 0 0 [.ref u, .ref a] h n Q := by
  have hO' := hO
  unfold e_Ou at hO'
  have hA' : h a = some (.inl (0, 512, .inl gx)) := hA
  unfold LST at q1
  refine q_in u_Ou_least (by rw [L_Ou_least]; exact Nat.le_of_ble_eq_true rfl) ?_
  rw [L_Ou_least]
  refine q_at o_Ou_least [15] 20 l_Ou_least_0 ?_
  rcases Nat.eq_zero_or_pos k with y | y
  · subst y
    rw [if_pos rfl] at q1
    simp -implicitDefEqProofs only [s_go, s_nil, s_cons, q_ins, s_op, s_i, s_j, s_a, s_v, s_li, s_lj, s_la, s_liO, s_ljO, s_laO, q_get, q_p1, q_p2, s_n2i, s_n2r, s_n2l, s_n2n, q_pad, q_ar, s_ob, s_obO, q_nth, s_ri, s_riO, s_rb, s_rbO, s_rzO, s_rl, s_rlO, s_rq, s_rqO, s_ry, s_ryO, s_dn, s_tl, s_tn, s_ap, s_an, s_ci, s_cr, s_ni, s_n0, s_n1, q_ags, q_cat, List.contains_nil, List.contains_cons, Nat.reduceBEq, Bool.or_false, Bool.false_or, Bool.true_or, Bool.false_eq_true, ↓reduceIte, Nat.le_refl, Nat.zero_le, true_and, and_true, Nat.reduceLeDiff, Nat.reduceAdd, Nat.add_zero, Nat.zero_add, List.length_cons, List.length_nil, List.set_cons_zero, List.set_cons_succ, Nat.reduceLT, s_fi, s_fl, s_fo, s_fa, s_f0, s_f1, s_set, s_ss, lg_cmp_ge, lg_cmp_le, lg_cmp_gt, lg_cmp_lt, lg_cmp_eq, s_brT, s_brF, s_10, w_Ou_least, r_Ou_least, l_Ou_least_0, l_Ou_least_9, l_Ou_least_15, l_Ou_least_37, f_4_50, kc_0, kc_1, mm_4_145, q_ac_no_4_145, hO']
    exact ⟨fun _ => q1, fun c => absurd rfl c⟩
  · rw [if_neg (by omega)] at q1
    have e1 := (hf 0 (by omega)).1
    simp -implicitDefEqProofs only [s_go, s_nil, s_cons, q_ins, s_op, s_i, s_j, s_a, s_v, s_li, s_lj, s_la, s_liO, s_ljO, s_laO, q_get, q_p1, q_p2, s_n2i, s_n2r, s_n2l, s_n2n, q_pad, q_ar, s_ob, s_obO, q_nth, s_ri, s_riO, s_rb, s_rbO, s_rzO, s_rl, s_rlO, s_rq, s_rqO, s_ry, s_ryO, s_dn, s_tl, s_tn, s_ap, s_an, s_ci, s_cr, s_ni, s_n0, s_n1, q_ags, q_cat, List.contains_nil, List.contains_cons, Nat.reduceBEq, Bool.or_false, Bool.false_or, Bool.true_or, Bool.false_eq_true, ↓reduceIte, Nat.le_refl, Nat.zero_le, true_and, and_true, Nat.reduceLeDiff, Nat.reduceAdd, Nat.add_zero, Nat.zero_add, List.length_cons, List.length_nil, List.set_cons_zero, List.set_cons_succ, Nat.reduceLT, s_fi, s_fl, s_fo, s_fa, s_f0, s_f1, s_set, s_ss, lg_cmp_ge, lg_cmp_le, lg_cmp_gt, lg_cmp_lt, lg_cmp_eq, s_brT, s_brF, s_10, w_Ou_least, r_Ou_least, l_Ou_least_0, l_Ou_least_9, l_Ou_least_15, l_Ou_least_37, f_4_50, kc_0, kc_1, mm_4_145, q_ac_no_4_145, hO', hA', show (0 : Int32).toNatClampNeg = 0 from rfl, e1]
    refine ⟨fun c => absurd c (nI_ne0 y (by omega)), fun _ => ⟨vp_in_nI (n := 0) (by omega) (by omega), ?_⟩⟩
    exact z_Ou_least hO hk hA hf q1 (k - 1) 0 (by omega)
set_option maxRecDepth 100000 in
set_option maxHeartbeats 4000000 in
theorem z_Ou_greatest {G : q_G} {l : Launch} {d u a n k : Nat} {cts prd wg : Int32} {gx : Nat → Int32} {f : Nat → Int} {h : q_H} {Q : q_P} (hO : h u = some (e_Ou u (nI k) cts prd wg)) (hk : k ≤ 512) (hA : q_ar5 h a gx) (hf : ∀ j, j < k → gx j = iI (f j) ∧ q_co (f j)) (q1 : Q (some (.int (iI (MX f (k - 1))))) h n) : ∀ (r i : Nat), i + 1 + r = k → q_Z G l M_Ou_greatest (d + 1) 0 0 Q 15 [some (.ref u), some (.ref a), some (.int (iI (MX f i))), some (.int (nI (i + 1)))] [] h n 0 0 := by
  have hO' := hO
  unfold e_Ou at hO'
  have hA' : h a = some (.inl (0, 512, .inl gx)) := hA
  intro r
  induction r with
  | zero =>
    intro i hi
    subst hi
    refine q_at o_Ou_greatest [15] 20 l_Ou_greatest_15 ?_
    simp -implicitDefEqProofs only [s_go, s_nil, s_cons, q_ins, s_op, s_i, s_j, s_a, s_v, s_li, s_lj, s_la, s_liO, s_ljO, s_laO, q_get, q_p1, q_p2, s_n2i, s_n2r, s_n2l, s_n2n, q_pad, q_ar, s_ob, s_obO, q_nth, s_ri, s_riO, s_rb, s_rbO, s_rzO, s_rl, s_rlO, s_rq, s_rqO, s_ry, s_ryO, s_dn, s_tl, s_tn, s_ap, s_an, s_ci, s_cr, s_ni, s_n0, s_n1, q_ags, q_cat, List.contains_nil, List.contains_cons, Nat.reduceBEq, Bool.or_false, Bool.false_or, Bool.true_or, Bool.false_eq_true, ↓reduceIte, Nat.le_refl, Nat.zero_le, true_and, and_true, Nat.reduceLeDiff, Nat.reduceAdd, Nat.add_zero, Nat.zero_add, List.length_cons, List.length_nil, List.set_cons_zero, List.set_cons_succ, Nat.reduceLT, s_fi, s_fl, s_fo, s_fa, s_f0, s_f1, s_set, s_ss, lg_cmp_ge, lg_cmp_le, lg_cmp_gt, lg_cmp_lt, lg_cmp_eq, s_brT, s_brF, s_10, w_Ou_greatest, r_Ou_greatest, l_Ou_greatest_0, l_Ou_greatest_9, l_Ou_greatest_15, l_Ou_greatest_37, f_4_50, kc_0, kc_1, mm_4_150, q_ac_no_4_150, hO']
    exact ⟨fun _ => q1, fun c => absurd (nI_le (Nat.le_refl _) (by omega)) c⟩
  | succ r ih =>
    intro i hi
    have e1 := (hf (i + 1) (by omega)).1
    have c1 := (hf (i + 1) (by omega)).2
    have c2 := MX_co i (fun j hj => (hf j (by omega)).2)
    refine q_at o_Ou_greatest [15] 20 l_Ou_greatest_15 ?_
    simp -implicitDefEqProofs only [s_go, s_nil, s_cons, q_ins, s_op, s_i, s_j, s_a, s_v, s_li, s_lj, s_la, s_liO, s_ljO, s_laO, q_get, q_p1, q_p2, s_n2i, s_n2r, s_n2l, s_n2n, q_pad, q_ar, s_ob, s_obO, q_nth, s_ri, s_riO, s_rb, s_rbO, s_rzO, s_rl, s_rlO, s_rq, s_rqO, s_ry, s_ryO, s_dn, s_tl, s_tn, s_ap, s_an, s_ci, s_cr, s_ni, s_n0, s_n1, q_ags, q_cat, List.contains_nil, List.contains_cons, Nat.reduceBEq, Bool.or_false, Bool.false_or, Bool.true_or, Bool.false_eq_true, ↓reduceIte, Nat.le_refl, Nat.zero_le, true_and, and_true, Nat.reduceLeDiff, Nat.reduceAdd, Nat.add_zero, Nat.zero_add, List.length_cons, List.length_nil, List.set_cons_zero, List.set_cons_succ, Nat.reduceLT, s_fi, s_fl, s_fo, s_fa, s_f0, s_f1, s_set, s_ss, lg_cmp_ge, lg_cmp_le, lg_cmp_gt, lg_cmp_lt, lg_cmp_eq, s_brT, s_brF, s_10, w_Ou_greatest, r_Ou_greatest, l_Ou_greatest_0, l_Ou_greatest_9, l_Ou_greatest_15, l_Ou_greatest_37, f_4_50, kc_0, kc_1, mm_4_150, q_ac_no_4_150, hO', hA', nI_clamp (show i + 1 < 2 ^ 31 by omega), e1, nI_1]
    refine ⟨fun c => absurd ((nI_leI (by omega) (by omega)).mp c) (by omega), fun _ => ⟨vp_in_nI (by omega) (by omega), ?_⟩⟩
    have e2 : (if iI (MX f i) < iI (f (i + 1)) then iI (f (i + 1)) else iI (MX f i)) = iI (MX f (i + 1)) := by
      show _ = iI (if MX f i < f (i + 1) then f (i + 1) else MX f i)
      by_cases q : MX f i < f (i + 1)
      · rw [if_pos q, if_pos ((q_ilt c2 c1).mpr q)]
      · rw [if_neg q, if_neg (fun y => q ((q_ilt c2 c1).mp y))]
    rw [e2]
    exact ih (i + 1) (by omega)
set_option maxRecDepth 100000 in
set_option maxHeartbeats 4000000 in
theorem c_Ou_greatest {G : q_G} {l : Launch} {d u a n k : Nat} {cts prd wg : Int32} {gx : Nat → Int32} {f : Nat → Int} {h : q_H} {Q : q_P} (hO : h u = some (e_Ou u (nI k) cts prd wg)) (hk : k ≤ 512) (hA : q_ar5 h a gx) (hf : ∀ j, j < k → gx j = iI (f j) ∧ q_co (f j)) (q1 : Q (some (.int (iI (GRT f k)))) h n) : q_Call G l M_Ou_greatest (d + 1) 0 0 [.ref u, .ref a] h n Q := by
  have hO' := hO
  unfold e_Ou at hO'
  have hA' : h a = some (.inl (0, 512, .inl gx)) := hA
  unfold GRT at q1
  refine q_in u_Ou_greatest (by rw [L_Ou_greatest]; exact Nat.le_of_ble_eq_true rfl) ?_
  rw [L_Ou_greatest]
  refine q_at o_Ou_greatest [15] 20 l_Ou_greatest_0 ?_
  rcases Nat.eq_zero_or_pos k with y | y
  · subst y
    rw [if_pos rfl] at q1
    simp -implicitDefEqProofs only [s_go, s_nil, s_cons, q_ins, s_op, s_i, s_j, s_a, s_v, s_li, s_lj, s_la, s_liO, s_ljO, s_laO, q_get, q_p1, q_p2, s_n2i, s_n2r, s_n2l, s_n2n, q_pad, q_ar, s_ob, s_obO, q_nth, s_ri, s_riO, s_rb, s_rbO, s_rzO, s_rl, s_rlO, s_rq, s_rqO, s_ry, s_ryO, s_dn, s_tl, s_tn, s_ap, s_an, s_ci, s_cr, s_ni, s_n0, s_n1, q_ags, q_cat, List.contains_nil, List.contains_cons, Nat.reduceBEq, Bool.or_false, Bool.false_or, Bool.true_or, Bool.false_eq_true, ↓reduceIte, Nat.le_refl, Nat.zero_le, true_and, and_true, Nat.reduceLeDiff, Nat.reduceAdd, Nat.add_zero, Nat.zero_add, List.length_cons, List.length_nil, List.set_cons_zero, List.set_cons_succ, Nat.reduceLT, s_fi, s_fl, s_fo, s_fa, s_f0, s_f1, s_set, s_ss, lg_cmp_ge, lg_cmp_le, lg_cmp_gt, lg_cmp_lt, lg_cmp_eq, s_brT, s_brF, s_10, w_Ou_greatest, r_Ou_greatest, l_Ou_greatest_0, l_Ou_greatest_9, l_Ou_greatest_15, l_Ou_greatest_37, f_4_50, kc_0, kc_1, mm_4_150, q_ac_no_4_150, hO']
    exact ⟨fun _ => q1, fun c => absurd rfl c⟩
  · rw [if_neg (by omega)] at q1
    have e1 := (hf 0 (by omega)).1
    simp -implicitDefEqProofs only [s_go, s_nil, s_cons, q_ins, s_op, s_i, s_j, s_a, s_v, s_li, s_lj, s_la, s_liO, s_ljO, s_laO, q_get, q_p1, q_p2, s_n2i, s_n2r, s_n2l, s_n2n, q_pad, q_ar, s_ob, s_obO, q_nth, s_ri, s_riO, s_rb, s_rbO, s_rzO, s_rl, s_rlO, s_rq, s_rqO, s_ry, s_ryO, s_dn, s_tl, s_tn, s_ap, s_an, s_ci, s_cr, s_ni, s_n0, s_n1, q_ags, q_cat, List.contains_nil, List.contains_cons, Nat.reduceBEq, Bool.or_false, Bool.false_or, Bool.true_or, Bool.false_eq_true, ↓reduceIte, Nat.le_refl, Nat.zero_le, true_and, and_true, Nat.reduceLeDiff, Nat.reduceAdd, Nat.add_zero, Nat.zero_add, List.length_cons, List.length_nil, List.set_cons_zero, List.set_cons_succ, Nat.reduceLT, s_fi, s_fl, s_fo, s_fa, s_f0, s_f1, s_set, s_ss, lg_cmp_ge, lg_cmp_le, lg_cmp_gt, lg_cmp_lt, lg_cmp_eq, s_brT, s_brF, s_10, w_Ou_greatest, r_Ou_greatest, l_Ou_greatest_0, l_Ou_greatest_9, l_Ou_greatest_15, l_Ou_greatest_37, f_4_50, kc_0, kc_1, mm_4_150, q_ac_no_4_150, hO', hA', show (0 : Int32).toNatClampNeg = 0 from rfl, e1]
    refine ⟨fun c => absurd c (nI_ne0 y (by omega)), fun _ => ⟨vp_in_nI (n := 0) (by omega) (by omega), ?_⟩⟩
    exact z_Ou_greatest hO hk hA hf q1 (k - 1) 0 (by omega)
