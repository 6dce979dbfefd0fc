/-! Font: sums, tables -/
def SUM1 (F : Nat → Nat) (sz k : Nat) : Prop := SUMk F (T_p F sz k) (T_l F sz k) ((T_l F sz k + 3) / 4) % 4294967296 = T_s F sz k
def SUMS_ok (F : Nat → Nat) (sz : Nat) : Prop := ∀ k, k < NT F sz → SUM1 F sz k
theorem q_By.mv {h h' : q_H} {f row m sz : Nat} {g : Nat → Int32} {F : Nat → Nat} (hB : q_By h f row m g sz F) (h1 : h' f = h f) (h2 : h' row = h row) : q_By h' f row m g sz F := ⟨h1.trans hB.1, h2.trans hB.2.1, hB.2.2⟩
theorem q_By.ne {h : q_H} {f row m sz a : Nat} {g : Nat → Int32} {F : Nat → Nat} {ci : Nat} {fs : List Value} (hB : q_By h f row m g sz F) (ha : h a = some (.inr (ci, fs))) : row ≠ a := by
  intro q
  have := hB.2.1
  rw [q, ha] at this
  cases this
set_option maxRecDepth 100000 in
set_option maxHeartbeats 4000000 in
theorem z_Fo_hasSums {G : q_G} {l : Launch} {d o row m n sz : Nat} {em gl wd lp : Int32} {g : Nat → Int32} {F : Nat → Nat} {h : q_H} {Q : q_P} (hO : h o = some (e_Fo o em gl wd lp)) (hW : q_Ta h (o + 3) (o + 1) 0 sz) (hB : q_By h (o + 1) row m g sz F) (hf : FILE_ok F sz) (hr4 : row ≠ o + 4) (q1 : SUMS_ok F sz → ∀ h' st ln, q_1 h h' (o + 4) → q_Ta h' (o + 4) (o + 1) st ln → Q (some (.int 1)) h' n) (q0 : ¬ SUMS_ok F sz → ∀ h' st ln, q_1 h h' (o + 4) → q_Ta h' (o + 4) (o + 1) st ln → Q (some (.int 0)) h' n) :
    ∀ (r k : Nat), k + r = NT F sz → (∀ j, j < k → SUM1 F sz j) → ∀ h' st ln, q_1 h h' (o + 4) → q_Ta h' (o + 4) (o + 1) st ln → q_Z G l M_Fo_hasSums (d + 3) 0 0 Q 7 [some (.ref o), some (.int (nI (NT F sz))), some (.int (nI k)), none] [] h' n 0 0 := by
  have hF := hB.2.2.2.2.2.2
  have hs : sz ≤ 16384 := Nat.le_trans hB.2.2.1 hB.2.2.2.1
  have hN := hf.2.2.1
  intro r
  induction r with
  | zero =>
    intro k hk hall h' st ln f1 f2
    refine q_at o_Fo_hasSums [7] 20 l_Fo_hasSums_7 ?_
    simp -implicitDefEqProofs only [s_go, s_nil, s_cons, q_ins, s_op, s_i, s_j, s_a, s_v, s_li, s_lj, s_la, s_liO, s_ljO, s_laO, q_get, q_p1, q_p2, s_n2i, s_n2r, s_n2l, s_n2n, q_pad, q_ar, s_ob, s_obO, q_nth, s_ri, s_riO, s_rb, s_rbO, s_rzO, s_rl, s_rlO, s_rq, s_rqO, s_ry, s_ryO, s_dn, s_tl, s_tn, s_ap, s_an, s_ci, s_cr, s_ni, s_n0, s_n1, q_ags, q_cat, List.contains_nil, List.contains_cons, Nat.reduceBEq, Bool.or_false, Bool.false_or, Bool.true_or, Bool.false_eq_true, ↓reduceIte, Nat.le_refl, Nat.zero_le, true_and, and_true, Nat.reduceLeDiff, Nat.reduceAdd, Nat.add_zero, Nat.zero_add, List.length_cons, List.length_nil, List.set_cons_zero, List.set_cons_succ, Nat.reduceLT, s_fi, s_fl, s_fo, s_fa, s_f0, s_f1, s_set, s_ss, lg_cmp_ge, lg_cmp_le, lg_cmp_gt, lg_cmp_lt, lg_cmp_eq, s_brT, s_brF, s_10, w_Fo_hasSums, r_Fo_hasSums, l_Fo_hasSums_0, l_Fo_hasSums_7, l_Fo_hasSums_53, l_Fo_hasSums_59, ml_3_94, w_Fo_tables, kc_0, kb_12, kb_16, f_3_27, ml_3_112, w_Fo_layByEntry, ml_3_116, w_Fo_sum, f_3_23, kc_4, ml_3_98, w_Ta_u32, kc_1]
    exact ⟨fun _ => q1 (by unfold SUMS_ok; rw [← hk]; exact hall) h' st ln f1 f2, fun c => absurd (nI_le (by omega) (by omega)) c⟩
  | succ r ih =>
    intro k hk hall h' st ln f1 f2
    have O1 : h' o = some (e_Fo o em gl wd lp) := (f1 o (by omega)).trans hO
    have W1 : q_Ta h' (o + 3) (o + 1) 0 sz := (f1 (o + 3) (by omega)).trans hW
    have B1 : q_By h' (o + 1) row m g sz F := hB.mv (f1 _ (by omega)) (f1 _ hr4)
    have O1' := O1
    unfold e_Fo at O1'
    have W1' : h' (o + 3) = some (.inr (6, [.ref (o + 1), .int (nI 0), .int (nI sz)])) := W1
    have S1' : h' (o + 4) = some (.inr (6, [.ref (o + 1), .int (nI st), .int (nI ln)])) := f2
    refine q_at o_Fo_hasSums [7] 20 l_Fo_hasSums_7 ?_
    simp -implicitDefEqProofs only [s_go, s_nil, s_cons, q_ins, s_op, s_i, s_j, s_a, s_v, s_li, s_lj, s_la, s_liO, s_ljO, s_laO, q_get, q_p1, q_p2, s_n2i, s_n2r, s_n2l, s_n2n, q_pad, q_ar, s_ob, s_obO, q_nth, s_ri, s_riO, s_rb, s_rbO, s_rzO, s_rl, s_rlO, s_rq, s_rqO, s_ry, s_ryO, s_dn, s_tl, s_tn, s_ap, s_an, s_ci, s_cr, s_ni, s_n0, s_n1, q_ags, q_cat, List.contains_nil, List.contains_cons, Nat.reduceBEq, Bool.or_false, Bool.false_or, Bool.true_or, Bool.false_eq_true, ↓reduceIte, Nat.le_refl, Nat.zero_le, true_and, and_true, Nat.reduceLeDiff, Nat.reduceAdd, Nat.add_zero, Nat.zero_add, List.length_cons, List.length_nil, List.set_cons_zero, List.set_cons_succ, Nat.reduceLT, s_fi, s_fl, s_fo, s_fa, s_f0, s_f1, s_set, s_ss, lg_cmp_ge, lg_cmp_le, lg_cmp_gt, lg_cmp_lt, lg_cmp_eq, s_brT, s_brF, s_10, w_Fo_hasSums, r_Fo_hasSums, l_Fo_hasSums_0, l_Fo_hasSums_7, l_Fo_hasSums_53, l_Fo_hasSums_59, ml_3_94, w_Fo_tables, kc_0, kb_12, kb_16, f_3_27, ml_3_112, w_Fo_layByEntry, ml_3_116, w_Fo_sum, f_3_23, kc_4, ml_3_98, w_Ta_u32, kc_1, O1', W1', S1']
    refine ⟨fun c => absurd ((nI_leI (by omega) (by omega)).mp c) (by omega), fun _ => ?_⟩
    rw [show (16 : Int32) * nI k = nI (16 * k) from pk_mul 16 k, show (12 : Int32) + nI (16 * k) = nI (12 + 16 * k) from nI_add 12 _]
    refine q_c0 (Nat.le_refl _) (Nat.le_refl _) ?_
    refine c_Fo_layByEntry O1 W1 B1 f2 (by omega) ?_
    generalize hh2 : q_set h' (o + 4) _ = h2
    have g2 : q_1 h h2 (o + 4) := fun b hb => by rw [← hh2, s_ne _ _ hb]; exact f1 b hb
    have S2 : q_Ta h2 (o + 4) (o + 1) (T_p F sz k) (T_l F sz k) := by unfold q_Ta; rw [← hh2]; exact s_set _ _ _
    have O2 : h2 o = some (e_Fo o em gl wd lp) := (g2 o (by omega)).trans hO
    have W2 : q_Ta h2 (o + 3) (o + 1) 0 sz := (g2 (o + 3) (by omega)).trans hW
    have B2 : q_By h2 (o + 1) row m g sz F := hB.mv (g2 _ (by omega)) (g2 _ hr4)
    have O2' := O2
    unfold e_Fo at O2'
    have W2' : h2 (o + 3) = some (.inr (6, [.ref (o + 1), .int (nI 0), .int (nI sz)])) := W2
    have S2' : h2 (o + 4) = some (.inr (6, [.ref (o + 1), .int (nI (T_p F sz k)), .int (nI (T_l F sz k))])) := S2
    simp -implicitDefEqProofs only [s_go, s_nil, s_cons, q_ins, s_op, s_i, s_j, s_a, s_v, s_li, s_lj, s_la, s_liO, s_ljO, s_laO, q_get, q_p1, q_p2, s_n2i, s_n2r, s_n2l, s_n2n, q_pad, q_ar, s_ob, s_obO, q_nth, s_ri, s_riO, s_rb, s_rbO, s_rzO, s_rl, s_rlO, s_rq, s_rqO, s_ry, s_ryO, s_dn, s_tl, s_tn, s_ap, s_an, s_ci, s_cr, s_ni, s_n0, s_n1, q_ags, q_cat, List.contains_nil, List.contains_cons, Nat.reduceBEq, Bool.or_false, Bool.false_or, Bool.true_or, Bool.false_eq_true, ↓reduceIte, Nat.le_refl, Nat.zero_le, true_and, and_true, Nat.reduceLeDiff, Nat.reduceAdd, Nat.add_zero, Nat.zero_add, List.length_cons, List.length_nil, List.set_cons_zero, List.set_cons_succ, Nat.reduceLT, s_fi, s_fl, s_fo, s_fa, s_f0, s_f1, s_set, s_ss, lg_cmp_ge, lg_cmp_le, lg_cmp_gt, lg_cmp_lt, lg_cmp_eq, s_brT, s_brF, s_10, w_Fo_hasSums, r_Fo_hasSums, l_Fo_hasSums_0, l_Fo_hasSums_7, l_Fo_hasSums_53, l_Fo_hasSums_59, ml_3_94, w_Fo_tables, kc_0, kb_12, kb_16, f_3_27, ml_3_112, w_Fo_layByEntry, ml_3_116, w_Fo_sum, f_3_23, kc_4, ml_3_98, w_Ta_u32, kc_1, O2', W2', S2']
    refine q_c0 (Nat.le_refl _) (Nat.le_refl _) ?_
    refine c_Fo_sum S2 B2 (hf.2.2.2.2 k (by omega)).2 ?_
    simp -implicitDefEqProofs only [s_go, s_nil, s_cons, q_ins, s_op, s_i, s_j, s_a, s_v, s_li, s_lj, s_la, s_liO, s_ljO, s_laO, q_get, q_p1, q_p2, s_n2i, s_n2r, s_n2l, s_n2n, q_pad, q_ar, s_ob, s_obO, q_nth, s_ri, s_riO, s_rb, s_rbO, s_rzO, s_rl, s_rlO, s_rq, s_rqO, s_ry, s_ryO, s_dn, s_tl, s_tn, s_ap, s_an, s_ci, s_cr, s_ni, s_n0, s_n1, q_ags, q_cat, List.contains_nil, List.contains_cons, Nat.reduceBEq, Bool.or_false, Bool.false_or, Bool.true_or, Bool.false_eq_true, ↓reduceIte, Nat.le_refl, Nat.zero_le, true_and, and_true, Nat.reduceLeDiff, Nat.reduceAdd, Nat.add_zero, Nat.zero_add, List.length_cons, List.length_nil, List.set_cons_zero, List.set_cons_succ, Nat.reduceLT, s_fi, s_fl, s_fo, s_fa, s_f0, s_f1, s_set, s_ss, lg_cmp_ge, lg_cmp_le, lg_cmp_gt, lg_cmp_lt, lg_cmp_eq, s_brT, s_brF, s_10, w_Fo_hasSums, r_Fo_hasSums, l_Fo_hasSums_0, l_Fo_hasSums_7, l_Fo_hasSums_53, l_Fo_hasSums_59, ml_3_94, w_Fo_tables, kc_0, kb_12, kb_16, f_3_27, ml_3_112, w_Fo_layByEntry, ml_3_116, w_Fo_sum, f_3_23, kc_4, ml_3_98, w_Ta_u32, kc_1, O2', W2', S2']
    rw [show nI (12 + 16 * k) + 4 = nI (12 + 16 * k + 4) from nI_add _ 4]
    refine q_c0 (Nat.le_refl _) (Nat.le_refl _) ?_
    refine c_Ta_u32 W2 B2 (by omega) (by omega) ?_
    simp -implicitDefEqProofs only [s_go, s_nil, s_cons, q_ins, s_op, s_i, s_j, s_a, s_v, s_li, s_lj, s_la, s_liO, s_ljO, s_laO, q_get, q_p1, q_p2, s_n2i, s_n2r, s_n2l, s_n2n, q_pad, q_ar, s_ob, s_obO, q_nth, s_ri, s_riO, s_rb, s_rbO, s_rzO, s_rl, s_rlO, s_rq, s_rqO, s_ry, s_ryO, s_dn, s_tl, s_tn, s_ap, s_an, s_ci, s_cr, s_ni, s_n0, s_n1, q_ags, q_cat, List.contains_nil, List.contains_cons, Nat.reduceBEq, Bool.or_false, Bool.false_or, Bool.true_or, Bool.false_eq_true, ↓reduceIte, Nat.le_refl, Nat.zero_le, true_and, and_true, Nat.reduceLeDiff, Nat.reduceAdd, Nat.add_zero, Nat.zero_add, List.length_cons, List.length_nil, List.set_cons_zero, List.set_cons_succ, Nat.reduceLT, s_fi, s_fl, s_fo, s_fa, s_f0, s_f1, s_set, s_ss, lg_cmp_ge, lg_cmp_le, lg_cmp_gt, lg_cmp_lt, lg_cmp_eq, s_brT, s_brF, s_10, w_Fo_hasSums, r_Fo_hasSums, l_Fo_hasSums_0, l_Fo_hasSums_7, l_Fo_hasSums_53, l_Fo_hasSums_59, ml_3_94, w_Fo_tables, kc_0, kb_12, kb_16, f_3_27, ml_3_112, w_Fo_layByEntry, ml_3_116, w_Fo_sum, f_3_23, kc_4, ml_3_98, w_Ta_u32, kc_1, O2', W2', S2']
    have b1 := U32_lt hF 0 sz (12 + 16 * k + 4)
    rw [pk_lEQ (by omega) (by omega)]
    refine ⟨fun c => ?_, fun c => q0 (fun z => c (z k (by omega))) h2 _ _ g2 S2⟩
    refine q_wk (ih (k + 1) (by omega) (fun j hj => ?_) h2 _ _ g2 S2) ⟨rfl, rfl, by rw [nI_1], trivial⟩
    rcases Nat.lt_or_ge j k with z | z
    · exact hall j z
    · have : j = k := by omega
      subst this
      exact c
set_option maxRecDepth 100000 in
set_option maxHeartbeats 4000000 in
theorem c_Fo_hasSums {G : q_G} {l : Launch} {d o row m n sz st ln : Nat} {em gl wd lp : Int32} {g : Nat → Int32} {F : Nat → Nat} {h : q_H} {Q : q_P} (hO : h o = some (e_Fo o em gl wd lp)) (hW : q_Ta h (o + 3) (o + 1) 0 sz) (hS : q_Ta h (o + 4) (o + 1) st ln) (hB : q_By h (o + 1) row m g sz F) (hf : FILE_ok F sz) (q1 : SUMS_ok F sz → ∀ h' st ln, q_1 h h' (o + 4) → q_Ta h' (o + 4) (o + 1) st ln → Q (some (.int 1)) h' n) (q0 : ¬ SUMS_ok F sz → ∀ h' st ln, q_1 h h' (o + 4) → q_Ta h' (o + 4) (o + 1) st ln → Q (some (.int 0)) h' n) : q_Call G l M_Fo_hasSums (d + 3) 0 0 [.ref o] h n Q := by
  have hO' := hO
  unfold e_Fo at hO'
  refine q_in u_Fo_hasSums (by rw [L_Fo_hasSums]; exact Nat.le_of_ble_eq_true rfl) ?_
  rw [L_Fo_hasSums]
  refine q_at o_Fo_hasSums [7] 20 l_Fo_hasSums_0 ?_
  simp -implicitDefEqProofs only [s_go, s_nil, s_cons, q_ins, s_op, s_i, s_j, s_a, s_v, s_li, s_lj, s_la, s_liO, s_ljO, s_laO, q_get, q_p1, q_p2, s_n2i, s_n2r, s_n2l, s_n2n, q_pad, q_ar, s_ob, s_obO, q_nth, s_ri, s_riO, s_rb, s_rbO, s_rzO, s_rl, s_rlO, s_rq, s_rqO, s_ry, s_ryO, s_dn, s_tl, s_tn, s_ap, s_an, s_ci, s_cr, s_ni, s_n0, s_n1, q_ags, q_cat, List.contains_nil, List.contains_cons, Nat.reduceBEq, Bool.or_false, Bool.false_or, Bool.true_or, Bool.false_eq_true, ↓reduceIte, Nat.le_refl, Nat.zero_le, true_and, and_true, Nat.reduceLeDiff, Nat.reduceAdd, Nat.add_zero, Nat.zero_add, List.length_cons, List.length_nil, List.set_cons_zero, List.set_cons_succ, Nat.reduceLT, s_fi, s_fl, s_fo, s_fa, s_f0, s_f1, s_set, s_ss, lg_cmp_ge, lg_cmp_le, lg_cmp_gt, lg_cmp_lt, lg_cmp_eq, s_brT, s_brF, s_10, w_Fo_hasSums, r_Fo_hasSums, l_Fo_hasSums_0, l_Fo_hasSums_7, l_Fo_hasSums_53, l_Fo_hasSums_59, ml_3_94, w_Fo_tables, kc_0, kb_12, kb_16, f_3_27, ml_3_112, w_Fo_layByEntry, ml_3_116, w_Fo_sum, f_3_23, kc_4, ml_3_98, w_Ta_u32, kc_1, hO']
  refine q_c0 (Nat.le_refl _) (Nat.le_refl _) ?_
  refine c_Fo_tables hO hW hB ?_
  simp -implicitDefEqProofs only [s_go, s_nil, s_cons, q_ins, s_op, s_i, s_j, s_a, s_v, s_li, s_lj, s_la, s_liO, s_ljO, s_laO, q_get, q_p1, q_p2, s_n2i, s_n2r, s_n2l, s_n2n, q_pad, q_ar, s_ob, s_obO, q_nth, s_ri, s_riO, s_rb, s_rbO, s_rzO, s_rl, s_rlO, s_rq, s_rqO, s_ry, s_ryO, s_dn, s_tl, s_tn, s_ap, s_an, s_ci, s_cr, s_ni, s_n0, s_n1, q_ags, q_cat, List.contains_nil, List.contains_cons, Nat.reduceBEq, Bool.or_false, Bool.false_or, Bool.true_or, Bool.false_eq_true, ↓reduceIte, Nat.le_refl, Nat.zero_le, true_and, and_true, Nat.reduceLeDiff, Nat.reduceAdd, Nat.add_zero, Nat.zero_add, List.length_cons, List.length_nil, List.set_cons_zero, List.set_cons_succ, Nat.reduceLT, s_fi, s_fl, s_fo, s_fa, s_f0, s_f1, s_set, s_ss, lg_cmp_ge, lg_cmp_le, lg_cmp_gt, lg_cmp_lt, lg_cmp_eq, s_brT, s_brF, s_10, w_Fo_hasSums, r_Fo_hasSums, l_Fo_hasSums_0, l_Fo_hasSums_7, l_Fo_hasSums_53, l_Fo_hasSums_59, ml_3_94, w_Fo_tables, kc_0, kb_12, kb_16, f_3_27, ml_3_112, w_Fo_layByEntry, ml_3_116, w_Fo_sum, f_3_23, kc_4, ml_3_98, w_Ta_u32, kc_1, hO']
  exact z_Fo_hasSums hO hW hB hf (hB.ne hS) q1 q0 (NT F sz) 0 (by omega) (fun j hj => absurd hj (by omega)) h st ln (fun _ _ => rfl) hS
/-- the first table of a name, from k on among r -/
def FKr (F : Nat → Nat) (sz nm : Nat) : Nat → Nat → Option Nat
  | _, 0 => none
  | k, r + 1 => if T_n F sz k = nm then some k else FKr F sz nm (k + 1) r
def FK (F : Nat → Nat) (sz nm : Nat) : Option Nat := FKr F sz nm 0 (NT F sz)
set_option maxRecDepth 100000 in
set_option maxHeartbeats 4000000 in
theorem z_Fo_finds {G : q_G} {l : Launch} {d o a row m n sz nm st ln : Nat} {em gl wd lp : Int32} {g : Nat → Int32} {F : Nat → Nat} {h : q_H} {Q : q_P} (hO : h o = some (e_Fo o em gl wd lp)) (hW : q_Ta h (o + 3) (o + 1) 0 sz) (hB : q_By h (o + 1) row m g sz F) (hT : q_Ta h a (o + 1) st ln) (hN : NT F sz ≤ 64) (hnm : nm < 2 ^ 31) :
    ∀ (r k : Nat), k + r = NT F sz → (∀ j, FKr F sz nm k r = some j → Q (some (.int 1)) (q_set h a (.inr (6, [.ref (o + 1), .int (nI (T_p F sz j)), .int (nI (T_l F sz j))]))) n) → (FKr F sz nm k r = none → Q (some (.int 0)) h n) → q_Z G l M_Fo_finds (d + 3) 0 0 Q 8 [some (.ref o), some (.ref a), some (.int (nI nm)), some (.int (nI (NT F sz))), some (.int (nI k)), none] [] h n 0 0 := by
  have hF := hB.2.2.2.2.2.2
  have hO' := hO
  unfold e_Fo at hO'
  have hW' : h (o + 3) = some (.inr (6, [.ref (o + 1), .int (nI 0), .int (nI sz)])) := hW
  have hT' : h a = some (.inr (6, [.ref (o + 1), .int (nI st), .int (nI ln)])) := hT
  intro r
  induction r with
  | zero =>
    intro k hk q1 q0
    refine q_at o_Fo_finds [8] 20 l_Fo_finds_8 ?_
    simp -implicitDefEqProofs only [s_go, s_nil, s_cons, q_ins, s_op, s_i, s_j, s_a, s_v, s_li, s_lj, s_la, s_liO, s_ljO, s_laO, q_get, q_p1, q_p2, s_n2i, s_n2r, s_n2l, s_n2n, q_pad, q_ar, s_ob, s_obO, q_nth, s_ri, s_riO, s_rb, s_rbO, s_rzO, s_rl, s_rlO, s_rq, s_rqO, s_ry, s_ryO, s_dn, s_tl, s_tn, s_ap, s_an, s_ci, s_cr, s_ni, s_n0, s_n1, q_ags, q_cat, List.contains_nil, List.contains_cons, Nat.reduceBEq, Bool.or_false, Bool.false_or, Bool.true_or, Bool.false_eq_true, ↓reduceIte, Nat.le_refl, Nat.zero_le, true_and, and_true, Nat.reduceLeDiff, Nat.reduceAdd, Nat.add_zero, Nat.zero_add, List.length_cons, List.length_nil, List.set_cons_zero, List.set_cons_succ, Nat.reduceLT, s_fi, s_fl, s_fo, s_fa, s_f0, s_f1, s_set, s_ss, lg_cmp_ge, lg_cmp_le, lg_cmp_gt, lg_cmp_lt, lg_cmp_eq, s_brT, s_brF, s_10, w_Fo_finds, r_Fo_finds, l_Fo_finds_0, l_Fo_finds_8, l_Fo_finds_48, l_Fo_finds_54, ml_3_94, w_Fo_tables, kc_0, kb_12, kb_16, f_3_23, ml_3_98, w_Ta_u32, ml_3_112, w_Fo_layByEntry, kc_1, hO', hW', hT']
    exact ⟨fun _ => q0 rfl, fun c => absurd (nI_le (by omega) (by omega)) c⟩
  | succ r ih =>
    intro k hk q1 q0
    refine q_at o_Fo_finds [8] 20 l_Fo_finds_8 ?_
    simp -implicitDefEqProofs only [s_go, s_nil, s_cons, q_ins, s_op, s_i, s_j, s_a, s_v, s_li, s_lj, s_la, s_liO, s_ljO, s_laO, q_get, q_p1, q_p2, s_n2i, s_n2r, s_n2l, s_n2n, q_pad, q_ar, s_ob, s_obO, q_nth, s_ri, s_riO, s_rb, s_rbO, s_rzO, s_rl, s_rlO, s_rq, s_rqO, s_ry, s_ryO, s_dn, s_tl, s_tn, s_ap, s_an, s_ci, s_cr, s_ni, s_n0, s_n1, q_ags, q_cat, List.contains_nil, List.contains_cons, Nat.reduceBEq, Bool.or_false, Bool.false_or, Bool.true_or, Bool.false_eq_true, ↓reduceIte, Nat.le_refl, Nat.zero_le, true_and, and_true, Nat.reduceLeDiff, Nat.reduceAdd, Nat.add_zero, Nat.zero_add, List.length_cons, List.length_nil, List.set_cons_zero, List.set_cons_succ, Nat.reduceLT, s_fi, s_fl, s_fo, s_fa, s_f0, s_f1, s_set, s_ss, lg_cmp_ge, lg_cmp_le, lg_cmp_gt, lg_cmp_lt, lg_cmp_eq, s_brT, s_brF, s_10, w_Fo_finds, r_Fo_finds, l_Fo_finds_0, l_Fo_finds_8, l_Fo_finds_48, l_Fo_finds_54, ml_3_94, w_Fo_tables, kc_0, kb_12, kb_16, f_3_23, ml_3_98, w_Ta_u32, ml_3_112, w_Fo_layByEntry, kc_1, hO', hW', hT']
    refine ⟨fun c => absurd ((nI_leI (by omega) (by omega)).mp c) (by omega), fun _ => ?_⟩
    rw [show (16 : Int32) * nI k = nI (16 * k) from pk_mul 16 k, show (12 : Int32) + nI (16 * k) = nI (12 + 16 * k) from nI_add 12 _]
    refine q_c0 (Nat.le_refl _) (Nat.le_refl _) ?_
    refine c_Ta_u32 hW hB (by omega) (by omega) ?_
    simp -implicitDefEqProofs only [s_go, s_nil, s_cons, q_ins, s_op, s_i, s_j, s_a, s_v, s_li, s_lj, s_la, s_liO, s_ljO, s_laO, q_get, q_p1, q_p2, s_n2i, s_n2r, s_n2l, s_n2n, q_pad, q_ar, s_ob, s_obO, q_nth, s_ri, s_riO, s_rb, s_rbO, s_rzO, s_rl, s_rlO, s_rq, s_rqO, s_ry, s_ryO, s_dn, s_tl, s_tn, s_ap, s_an, s_ci, s_cr, s_ni, s_n0, s_n1, q_ags, q_cat, List.contains_nil, List.contains_cons, Nat.reduceBEq, Bool.or_false, Bool.false_or, Bool.true_or, Bool.false_eq_true, ↓reduceIte, Nat.le_refl, Nat.zero_le, true_and, and_true, Nat.reduceLeDiff, Nat.reduceAdd, Nat.add_zero, Nat.zero_add, List.length_cons, List.length_nil, List.set_cons_zero, List.set_cons_succ, Nat.reduceLT, s_fi, s_fl, s_fo, s_fa, s_f0, s_f1, s_set, s_ss, lg_cmp_ge, lg_cmp_le, lg_cmp_gt, lg_cmp_lt, lg_cmp_eq, s_brT, s_brF, s_10, w_Fo_finds, r_Fo_finds, l_Fo_finds_0, l_Fo_finds_8, l_Fo_finds_48, l_Fo_finds_54, ml_3_94, w_Fo_tables, kc_0, kb_12, kb_16, f_3_23, ml_3_98, w_Ta_u32, ml_3_112, w_Fo_layByEntry, kc_1, hO', hW', hT', nI_l hnm]
    have b1 := U32_lt hF 0 sz (12 + 16 * k)
    rw [pk_lEQ (by omega) (by omega)]
    refine ⟨fun c => ?_, fun c => ?_⟩
    · refine q_c0 (Nat.le_refl _) (Nat.le_refl _) ?_
      refine c_Fo_layByEntry hO hW hB hT (by omega) ?_
      simp -implicitDefEqProofs only [s_go, s_nil, s_cons, q_ins, s_op, s_i, s_j, s_a, s_v, s_li, s_lj, s_la, s_liO, s_ljO, s_laO, q_get, q_p1, q_p2, s_n2i, s_n2r, s_n2l, s_n2n, q_pad, q_ar, s_ob, s_obO, q_nth, s_ri, s_riO, s_rb, s_rbO, s_rzO, s_rl, s_rlO, s_rq, s_rqO, s_ry, s_ryO, s_dn, s_tl, s_tn, s_ap, s_an, s_ci, s_cr, s_ni, s_n0, s_n1, q_ags, q_cat, List.contains_nil, List.contains_cons, Nat.reduceBEq, Bool.or_false, Bool.false_or, Bool.true_or, Bool.false_eq_true, ↓reduceIte, Nat.le_refl, Nat.zero_le, true_and, and_true, Nat.reduceLeDiff, Nat.reduceAdd, Nat.add_zero, Nat.zero_add, List.length_cons, List.length_nil, List.set_cons_zero, List.set_cons_succ, Nat.reduceLT, s_fi, s_fl, s_fo, s_fa, s_f0, s_f1, s_set, s_ss, lg_cmp_ge, lg_cmp_le, lg_cmp_gt, lg_cmp_lt, lg_cmp_eq, s_brT, s_brF, s_10, w_Fo_finds, r_Fo_finds, l_Fo_finds_0, l_Fo_finds_8, l_Fo_finds_48, l_Fo_finds_54, ml_3_94, w_Fo_tables, kc_0, kb_12, kb_16, f_3_23, ml_3_98, w_Ta_u32, ml_3_112, w_Fo_layByEntry, kc_1]
      have c : T_n F sz k = nm := c
      exact q1 k (by unfold FKr; rw [if_pos c])
    · have c : ¬ T_n F sz k = nm := c
      have e : FKr F sz nm k (r + 1) = FKr F sz nm (k + 1) r := by
        show (if T_n F sz k = nm then some k else FKr F sz nm (k + 1) r) = _
        rw [if_neg c]
      rw [e] at q1 q0
      exact q_wk (ih (k + 1) (by omega) q1 q0) ⟨rfl, rfl, rfl, rfl, by rw [nI_1], trivial⟩
set_option maxRecDepth 100000 in
set_option maxHeartbeats 4000000 in
theorem c_Fo_finds {G : q_G} {l : Launch} {d o a row m n sz nm st ln : Nat} {em gl wd lp : Int32} {g : Nat → Int32} {F : Nat → Nat} {h : q_H} {Q : q_P} (hO : h o = some (e_Fo o em gl wd lp)) (hW : q_Ta h (o + 3) (o + 1) 0 sz) (hB : q_By h (o + 1) row m g sz F) (hT : q_Ta h a (o + 1) st ln) (hN : NT F sz ≤ 64) (hnm : nm < 2 ^ 31)
    (q1 : ∀ j, FK F sz nm = some j → Q (some (.int 1)) (q_set h a (.inr (6, [.ref (o + 1), .int (nI (T_p F sz j)), .int (nI (T_l F sz j))]))) n) (q0 : FK F sz nm = none → Q (some (.int 0)) h n) : q_Call G l M_Fo_finds (d + 3) 0 0 [.ref o, .ref a, .int (nI nm)] h n Q := by
  have hO' := hO
  unfold e_Fo at hO'
  refine q_in u_Fo_finds (by rw [L_Fo_finds]; exact Nat.le_of_ble_eq_true rfl) ?_
  rw [L_Fo_finds]
  refine q_at o_Fo_finds [8] 20 l_Fo_finds_0 ?_
  simp -implicitDefEqProofs only [s_go, s_nil, s_cons, q_ins, s_op, s_i, s_j, s_a, s_v, s_li, s_lj, s_la, s_liO, s_ljO, s_laO, q_get, q_p1, q_p2, s_n2i, s_n2r, s_n2l, s_n2n, q_pad, q_ar, s_ob, s_obO, q_nth, s_ri, s_riO, s_rb, s_rbO, s_rzO, s_rl, s_rlO, s_rq, s_rqO, s_ry, s_ryO, s_dn, s_tl, s_tn, s_ap, s_an, s_ci, s_cr, s_ni, s_n0, s_n1, q_ags, q_cat, List.contains_nil, List.contains_cons, Nat.reduceBEq, Bool.or_false, Bool.false_or, Bool.true_or, Bool.false_eq_true, ↓reduceIte, Nat.le_refl, Nat.zero_le, true_and, and_true, Nat.reduceLeDiff, Nat.reduceAdd, Nat.add_zero, Nat.zero_add, List.length_cons, List.length_nil, List.set_cons_zero, List.set_cons_succ, Nat.reduceLT, s_fi, s_fl, s_fo, s_fa, s_f0, s_f1, s_set, s_ss, lg_cmp_ge, lg_cmp_le, lg_cmp_gt, lg_cmp_lt, lg_cmp_eq, s_brT, s_brF, s_10, w_Fo_finds, r_Fo_finds, l_Fo_finds_0, l_Fo_finds_8, l_Fo_finds_48, l_Fo_finds_54, ml_3_94, w_Fo_tables, kc_0, kb_12, kb_16, f_3_23, ml_3_98, w_Ta_u32, ml_3_112, w_Fo_layByEntry, kc_1, hO']
  refine q_c0 (Nat.le_refl _) (Nat.le_refl _) ?_
  refine c_Fo_tables hO hW hB ?_
  simp -implicitDefEqProofs only [s_go, s_nil, s_cons, q_ins, s_op, s_i, s_j, s_a, s_v, s_li, s_lj, s_la, s_liO, s_ljO, s_laO, q_get, q_p1, q_p2, s_n2i, s_n2r, s_n2l, s_n2n, q_pad, q_ar, s_ob, s_obO, q_nth, s_ri, s_riO, s_rb, s_rbO, s_rzO, s_rl, s_rlO, s_rq, s_rqO, s_ry, s_ryO, s_dn, s_tl, s_tn, s_ap, s_an, s_ci, s_cr, s_ni, s_n0, s_n1, q_ags, q_cat, List.contains_nil, List.contains_cons, Nat.reduceBEq, Bool.or_false, Bool.false_or, Bool.true_or, Bool.false_eq_true, ↓reduceIte, Nat.le_refl, Nat.zero_le, true_and, and_true, Nat.reduceLeDiff, Nat.reduceAdd, Nat.add_zero, Nat.zero_add, List.length_cons, List.length_nil, List.set_cons_zero, List.set_cons_succ, Nat.reduceLT, s_fi, s_fl, s_fo, s_fa, s_f0, s_f1, s_set, s_ss, lg_cmp_ge, lg_cmp_le, lg_cmp_gt, lg_cmp_lt, lg_cmp_eq, s_brT, s_brF, s_10, w_Fo_finds, r_Fo_finds, l_Fo_finds_0, l_Fo_finds_8, l_Fo_finds_48, l_Fo_finds_54, ml_3_94, w_Fo_tables, kc_0, kb_12, kb_16, f_3_23, ml_3_98, w_Ta_u32, ml_3_112, w_Fo_layByEntry, kc_1, hO']
  exact z_Fo_finds hO hW hB hT hN hnm (NT F sz) 0 (by omega) q1 q0
def nms : List Nat := [1668112752, 1735162214, 1751474532, 1751672161, 1752003704, 1819239265, 1835104368]
/-- the tables 5 .. 11 of the font o are there, whatever they show -/
def q_TJ (h : q_H) (o : Nat) : Prop := ∀ i, 5 ≤ i → i ≤ 11 → ∃ st ln, q_Ta h (o + i) (o + 1) st ln
theorem q_TJ.set {h : q_H} {o : Nat} (hJ : q_TJ h o) (i st ln : Nat) : q_TJ (q_set h (o + i) (.inr (6, [.ref (o + 1), .int (nI st), .int (nI ln)]))) o := by
  intro j h1 h2
  by_cases hj : j = i
  · subst hj; exact ⟨st, ln, s_set _ _ _⟩
  · obtain ⟨st', ln', h3⟩ := hJ j h1 h2
    exact ⟨st', ln', by unfold q_Ta; rw [s_ne _ _ (by omega)]; exact h3⟩
/-- cells of the tables 5 .. 11 alone have changed -/
def q_fT (h h' : q_H) (o : Nat) : Prop := ∀ b, (b < o + 5 ∨ o + 11 < b) → h' b = h b
theorem q_fT.set {h h' : q_H} {o : Nat} (hf : q_fT h h' o) {i : Nat} (h5 : 5 ≤ i) (h11 : i ≤ 11) (e : q_E) : q_fT h (q_set h' (o + i) e) o := fun b hb => by rw [s_ne _ _ (by omega)]; exact hf b hb
set_option maxRecDepth 100000 in
set_option maxHeartbeats 4000000 in
theorem c_Fo_hasTables {G : q_G} {l : Launch} {d o row m n sz : Nat} {em gl wd lp : Int32} {g : Nat → Int32} {F : Nat → Nat} {h : q_H} {Q : q_P} (hO : h o = some (e_Fo o em gl wd lp)) (hW : q_Ta h (o + 3) (o + 1) 0 sz) (hB : q_By h (o + 1) row m g sz F) (hJ : q_TJ h o) (hrow : row < o + 5 ∨ o + 11 < row) (hN : NT F sz ≤ 64)
    (q1 : ∀ j0 j1 j2 j3 j4 j5 j6, FK F sz 1668112752 = some j0 → FK F sz 1735162214 = some j1 → FK F sz 1751474532 = some j2 → FK F sz 1751672161 = some j3 → FK F sz 1752003704 = some j4 → FK F sz 1819239265 = some j5 → FK F sz 1835104368 = some j6 → ∀ h', q_fT h h' o → q_Ta h' (o + 5) (o + 1) (T_p F sz j0) (T_l F sz j0) → q_Ta h' (o + 6) (o + 1) (T_p F sz j1) (T_l F sz j1) → q_Ta h' (o + 7) (o + 1) (T_p F sz j2) (T_l F sz j2) → q_Ta h' (o + 8) (o + 1) (T_p F sz j3) (T_l F sz j3) → q_Ta h' (o + 9) (o + 1) (T_p F sz j4) (T_l F sz j4) → q_Ta h' (o + 10) (o + 1) (T_p F sz j5) (T_l F sz j5) → q_Ta h' (o + 11) (o + 1) (T_p F sz j6) (T_l F sz j6) → Q (some (.int 1)) h' n)
    (q0 : (FK F sz 1668112752 = none ∨ FK F sz 1735162214 = none ∨ FK F sz 1751474532 = none ∨ FK F sz 1751672161 = none ∨ FK F sz 1752003704 = none ∨ FK F sz 1819239265 = none ∨ FK F sz 1835104368 = none) → ∀ h', q_fT h h' o → q_TJ h' o → Q (some (.int 0)) h' n) : q_Call G l M_Fo_hasTables (d + 4) 0 0 [.ref o] h n Q := by
  have f0 : q_fT h h o := fun _ _ => rfl
  have O : ∀ h', q_fT h h' o → h' o = some (e_Fo o em gl wd lp) := fun h' f => (f o (by omega)).trans hO
  have W : ∀ h', q_fT h h' o → q_Ta h' (o + 3) (o + 1) 0 sz := fun h' f => (f (o + 3) (by omega)).trans hW
  have B : ∀ h', q_fT h h' o → q_By h' (o + 1) row m g sz F := fun h' f => hB.mv (f _ (by omega)) (f _ hrow)
  have O' : ∀ h', q_fT h h' o → h' o = _ := fun h' f => (O h' f).trans (by unfold e_Fo; rfl)
  refine q_in u_Fo_hasTables (by rw [L_Fo_hasTables]; exact Nat.le_of_ble_eq_true rfl) ?_
  rw [L_Fo_hasTables]
  refine q_at o_Fo_hasTables [] 20 l_Fo_hasTables_0 ?_
  simp -implicitDefEqProofs only [s_go, s_nil, s_cons, q_ins, s_op, s_i, s_j, s_a, s_v, s_li, s_lj, s_la, s_liO, s_ljO, s_laO, q_get, q_p1, q_p2, s_n2i, s_n2r, s_n2l, s_n2n, q_pad, q_ar, s_ob, s_obO, q_nth, s_ri, s_riO, s_rb, s_rbO, s_rzO, s_rl, s_rlO, s_rq, s_rqO, s_ry, s_ryO, s_dn, s_tl, s_tn, s_ap, s_an, s_ci, s_cr, s_ni, s_n0, s_n1, q_ags, q_cat, List.contains_nil, List.contains_cons, Nat.reduceBEq, Bool.or_false, Bool.false_or, Bool.true_or, Bool.false_eq_true, ↓reduceIte, Nat.le_refl, Nat.zero_le, true_and, and_true, Nat.reduceLeDiff, Nat.reduceAdd, Nat.add_zero, Nat.zero_add, List.length_cons, List.length_nil, List.set_cons_zero, List.set_cons_succ, Nat.reduceLT, s_fi, s_fl, s_fo, s_fa, s_f0, s_f1, s_set, s_ss, lg_cmp_ge, lg_cmp_le, lg_cmp_gt, lg_cmp_lt, lg_cmp_eq, s_brT, s_brF, s_10, w_Fo_hasTables, r_Fo_hasTables, l_Fo_hasTables_0, l_Fo_hasTables_95, l_Fo_hasTables_96, f_3_30, ki_3_125, ml_3_126, w_Fo_finds, f_3_33, ki_3_130, f_3_36, ki_3_131, f_3_39, ki_3_132, f_3_42, ki_3_133, f_3_45, ki_3_134, f_3_48, ki_3_135, kc_1, kc_0, O' h f0]
  obtain ⟨st0, ln0, T0⟩ := hJ 5 (by omega) (by omega)
  refine q_c0 (Nat.le_refl _) (Nat.le_refl _) ?_
  refine c_Fo_finds (nm := 1668112752) (O _ f0) (W _ f0) (B _ f0) T0 hN (by omega) (fun j0 k0 => ?_) (fun z => ?_)
  rotate_left
  · simp -implicitDefEqProofs only [s_go, s_nil, s_cons, q_ins, s_op, s_i, s_j, s_a, s_v, s_li, s_lj, s_la, s_liO, s_ljO, s_laO, q_get, q_p1, q_p2, s_n2i, s_n2r, s_n2l, s_n2n, q_pad, q_ar, s_ob, s_obO, q_nth, s_ri, s_riO, s_rb, s_rbO, s_rzO, s_rl, s_rlO, s_rq, s_rqO, s_ry, s_ryO, s_dn, s_tl, s_tn, s_ap, s_an, s_ci, s_cr, s_ni, s_n0, s_n1, q_ags, q_cat, List.contains_nil, List.contains_cons, Nat.reduceBEq, Bool.or_false, Bool.false_or, Bool.true_or, Bool.false_eq_true, ↓reduceIte, Nat.le_refl, Nat.zero_le, true_and, and_true, Nat.reduceLeDiff, Nat.reduceAdd, Nat.add_zero, Nat.zero_add, List.length_cons, List.length_nil, List.set_cons_zero, List.set_cons_succ, Nat.reduceLT, s_fi, s_fl, s_fo, s_fa, s_f0, s_f1, s_set, s_ss, lg_cmp_ge, lg_cmp_le, lg_cmp_gt, lg_cmp_lt, lg_cmp_eq, s_brT, s_brF, s_10, w_Fo_hasTables, r_Fo_hasTables, l_Fo_hasTables_0, l_Fo_hasTables_95, l_Fo_hasTables_96, f_3_30, ki_3_125, ml_3_126, w_Fo_finds, f_3_33, ki_3_130, f_3_36, ki_3_131, f_3_39, ki_3_132, f_3_42, ki_3_133, f_3_45, ki_3_134, f_3_48, ki_3_135, kc_1, kc_0, O' _ f0]
    exact q0 (Or.inl z) _ f0 hJ
  generalize hh1 : q_set h (o + 5) _ = h1
  have f1 : q_fT h h1 o := by rw [← hh1]; exact f0.set (by omega) (by omega) _
  have J1 : q_TJ h1 o := by rw [← hh1]; exact hJ.set 5 _ _
  have S1_0 : q_Ta h1 (o + 5) (o + 1) (T_p F sz j0) (T_l F sz j0) := by unfold q_Ta; rw [← hh1]; exact s_set _ _ _
  simp -implicitDefEqProofs only [s_go, s_nil, s_cons, q_ins, s_op, s_i, s_j, s_a, s_v, s_li, s_lj, s_la, s_liO, s_ljO, s_laO, q_get, q_p1, q_p2, s_n2i, s_n2r, s_n2l, s_n2n, q_pad, q_ar, s_ob, s_obO, q_nth, s_ri, s_riO, s_rb, s_rbO, s_rzO, s_rl, s_rlO, s_rq, s_rqO, s_ry, s_ryO, s_dn, s_tl, s_tn, s_ap, s_an, s_ci, s_cr, s_ni, s_n0, s_n1, q_ags, q_cat, List.contains_nil, List.contains_cons, Nat.reduceBEq, Bool.or_false, Bool.false_or, Bool.true_or, Bool.false_eq_true, ↓reduceIte, Nat.le_refl, Nat.zero_le, true_and, and_true, Nat.reduceLeDiff, Nat.reduceAdd, Nat.add_zero, Nat.zero_add, List.length_cons, List.length_nil, List.set_cons_zero, List.set_cons_succ, Nat.reduceLT, s_fi, s_fl, s_fo, s_fa, s_f0, s_f1, s_set, s_ss, lg_cmp_ge, lg_cmp_le, lg_cmp_gt, lg_cmp_lt, lg_cmp_eq, s_brT, s_brF, s_10, w_Fo_hasTables, r_Fo_hasTables, l_Fo_hasTables_0, l_Fo_hasTables_95, l_Fo_hasTables_96, f_3_30, ki_3_125, ml_3_126, w_Fo_finds, f_3_33, ki_3_130, f_3_36, ki_3_131, f_3_39, ki_3_132, f_3_42, ki_3_133, f_3_45, ki_3_134, f_3_48, ki_3_135, kc_1, kc_0, O' _ f1]
  obtain ⟨st1, ln1, T1⟩ := J1 6 (by omega) (by omega)
  refine q_c0 (Nat.le_refl _) (Nat.le_refl _) ?_
  refine c_Fo_finds (nm := 1735162214) (O _ f1) (W _ f1) (B _ f1) T1 hN (by omega) (fun j1 k1 => ?_) (fun z => ?_)
  rotate_left
  · simp -implicitDefEqProofs only [s_go, s_nil, s_cons, q_ins, s_op, s_i, s_j, s_a, s_v, s_li, s_lj, s_la, s_liO, s_ljO, s_laO, q_get, q_p1, q_p2, s_n2i, s_n2r, s_n2l, s_n2n, q_pad, q_ar, s_ob, s_obO, q_nth, s_ri, s_riO, s_rb, s_rbO, s_rzO, s_rl, s_rlO, s_rq, s_rqO, s_ry, s_ryO, s_dn, s_tl, s_tn, s_ap, s_an, s_ci, s_cr, s_ni, s_n0, s_n1, q_ags, q_cat, List.contains_nil, List.contains_cons, Nat.reduceBEq, Bool.or_false, Bool.false_or, Bool.true_or, Bool.false_eq_true, ↓reduceIte, Nat.le_refl, Nat.zero_le, true_and, and_true, Nat.reduceLeDiff, Nat.reduceAdd, Nat.add_zero, Nat.zero_add, List.length_cons, List.length_nil, List.set_cons_zero, List.set_cons_succ, Nat.reduceLT, s_fi, s_fl, s_fo, s_fa, s_f0, s_f1, s_set, s_ss, lg_cmp_ge, lg_cmp_le, lg_cmp_gt, lg_cmp_lt, lg_cmp_eq, s_brT, s_brF, s_10, w_Fo_hasTables, r_Fo_hasTables, l_Fo_hasTables_0, l_Fo_hasTables_95, l_Fo_hasTables_96, f_3_30, ki_3_125, ml_3_126, w_Fo_finds, f_3_33, ki_3_130, f_3_36, ki_3_131, f_3_39, ki_3_132, f_3_42, ki_3_133, f_3_45, ki_3_134, f_3_48, ki_3_135, kc_1, kc_0, O' _ f1]
    exact q0 (Or.inr (Or.inl z)) _ f1 J1
  generalize hh2 : q_set h1 (o + 6) _ = h2
  have f2 : q_fT h h2 o := by rw [← hh2]; exact f1.set (by omega) (by omega) _
  have J2 : q_TJ h2 o := by rw [← hh2]; exact J1.set 6 _ _
  have S2_0 : q_Ta h2 (o + 5) (o + 1) (T_p F sz j0) (T_l F sz j0) := by unfold q_Ta; rw [← hh2, s_ne _ _ (by omega)]; exact S1_0
  have S2_1 : q_Ta h2 (o + 6) (o + 1) (T_p F sz j1) (T_l F sz j1) := by unfold q_Ta; rw [← hh2]; exact s_set _ _ _
  simp -implicitDefEqProofs only [s_go, s_nil, s_cons, q_ins, s_op, s_i, s_j, s_a, s_v, s_li, s_lj, s_la, s_liO, s_ljO, s_laO, q_get, q_p1, q_p2, s_n2i, s_n2r, s_n2l, s_n2n, q_pad, q_ar, s_ob, s_obO, q_nth, s_ri, s_riO, s_rb, s_rbO, s_rzO, s_rl, s_rlO, s_rq, s_rqO, s_ry, s_ryO, s_dn, s_tl, s_tn, s_ap, s_an, s_ci, s_cr, s_ni, s_n0, s_n1, q_ags, q_cat, List.contains_nil, List.contains_cons, Nat.reduceBEq, Bool.or_false, Bool.false_or, Bool.true_or, Bool.false_eq_true, ↓reduceIte, Nat.le_refl, Nat.zero_le, true_and, and_true, Nat.reduceLeDiff, Nat.reduceAdd, Nat.add_zero, Nat.zero_add, List.length_cons, List.length_nil, List.set_cons_zero, List.set_cons_succ, Nat.reduceLT, s_fi, s_fl, s_fo, s_fa, s_f0, s_f1, s_set, s_ss, lg_cmp_ge, lg_cmp_le, lg_cmp_gt, lg_cmp_lt, lg_cmp_eq, s_brT, s_brF, s_10, w_Fo_hasTables, r_Fo_hasTables, l_Fo_hasTables_0, l_Fo_hasTables_95, l_Fo_hasTables_96, f_3_30, ki_3_125, ml_3_126, w_Fo_finds, f_3_33, ki_3_130, f_3_36, ki_3_131, f_3_39, ki_3_132, f_3_42, ki_3_133, f_3_45, ki_3_134, f_3_48, ki_3_135, kc_1, kc_0, O' _ f2]
  obtain ⟨st2, ln2, T2⟩ := J2 7 (by omega) (by omega)
  refine q_c0 (Nat.le_refl _) (Nat.le_refl _) ?_
  refine c_Fo_finds (nm := 1751474532) (O _ f2) (W _ f2) (B _ f2) T2 hN (by omega) (fun j2 k2 => ?_) (fun z => ?_)
  rotate_left
  · simp -implicitDefEqProofs only [s_go, s_nil, s_cons, q_ins, s_op, s_i, s_j, s_a, s_v, s_li, s_lj, s_la, s_liO, s_ljO, s_laO, q_get, q_p1, q_p2, s_n2i, s_n2r, s_n2l, s_n2n, q_pad, q_ar, s_ob, s_obO, q_nth, s_ri, s_riO, s_rb, s_rbO, s_rzO, s_rl, s_rlO, s_rq, s_rqO, s_ry, s_ryO, s_dn, s_tl, s_tn, s_ap, s_an, s_ci, s_cr, s_ni, s_n0, s_n1, q_ags, q_cat, List.contains_nil, List.contains_cons, Nat.reduceBEq, Bool.or_false, Bool.false_or, Bool.true_or, Bool.false_eq_true, ↓reduceIte, Nat.le_refl, Nat.zero_le, true_and, and_true, Nat.reduceLeDiff, Nat.reduceAdd, Nat.add_zero, Nat.zero_add, List.length_cons, List.length_nil, List.set_cons_zero, List.set_cons_succ, Nat.reduceLT, s_fi, s_fl, s_fo, s_fa, s_f0, s_f1, s_set, s_ss, lg_cmp_ge, lg_cmp_le, lg_cmp_gt, lg_cmp_lt, lg_cmp_eq, s_brT, s_brF, s_10, w_Fo_hasTables, r_Fo_hasTables, l_Fo_hasTables_0, l_Fo_hasTables_95, l_Fo_hasTables_96, f_3_30, ki_3_125, ml_3_126, w_Fo_finds, f_3_33, ki_3_130, f_3_36, ki_3_131, f_3_39, ki_3_132, f_3_42, ki_3_133, f_3_45, ki_3_134, f_3_48, ki_3_135, kc_1, kc_0, O' _ f2]
    exact q0 (Or.inr (Or.inr (Or.inl z))) _ f2 J2
  generalize hh3 : q_set h2 (o + 7) _ = h3
  have f3 : q_fT h h3 o := by rw [← hh3]; exact f2.set (by omega) (by omega) _
  have J3 : q_TJ h3 o := by rw [← hh3]; exact J2.set 7 _ _
  have S3_0 : q_Ta h3 (o + 5) (o + 1) (T_p F sz j0) (T_l F sz j0) := by unfold q_Ta; rw [← hh3, s_ne _ _ (by omega)]; exact S2_0
  have S3_1 : q_Ta h3 (o + 6) (o + 1) (T_p F sz j1) (T_l F sz j1) := by unfold q_Ta; rw [← hh3, s_ne _ _ (by omega)]; exact S2_1
  have S3_2 : q_Ta h3 (o + 7) (o + 1) (T_p F sz j2) (T_l F sz j2) := by unfold q_Ta; rw [← hh3]; exact s_set _ _ _
  simp -implicitDefEqProofs only [s_go, s_nil, s_cons, q_ins, s_op, s_i, s_j, s_a, s_v, s_li, s_lj, s_la, s_liO, s_ljO, s_laO, q_get, q_p1, q_p2, s_n2i, s_n2r, s_n2l, s_n2n, q_pad, q_ar, s_ob, s_obO, q_nth, s_ri, s_riO, s_rb, s_rbO, s_rzO, s_rl, s_rlO, s_rq, s_rqO, s_ry, s_ryO, s_dn, s_tl, s_tn, s_ap, s_an, s_ci, s_cr, s_ni, s_n0, s_n1, q_ags, q_cat, List.contains_nil, List.contains_cons, Nat.reduceBEq, Bool.or_false, Bool.false_or, Bool.true_or, Bool.false_eq_true, ↓reduceIte, Nat.le_refl, Nat.zero_le, true_and, and_true, Nat.reduceLeDiff, Nat.reduceAdd, Nat.add_zero, Nat.zero_add, List.length_cons, List.length_nil, List.set_cons_zero, List.set_cons_succ, Nat.reduceLT, s_fi, s_fl, s_fo, s_fa, s_f0, s_f1, s_set, s_ss, lg_cmp_ge, lg_cmp_le, lg_cmp_gt, lg_cmp_lt, lg_cmp_eq, s_brT, s_brF, s_10, w_Fo_hasTables, r_Fo_hasTables, l_Fo_hasTables_0, l_Fo_hasTables_95, l_Fo_hasTables_96, f_3_30, ki_3_125, ml_3_126, w_Fo_finds, f_3_33, ki_3_130, f_3_36, ki_3_131, f_3_39, ki_3_132, f_3_42, ki_3_133, f_3_45, ki_3_134, f_3_48, ki_3_135, kc_1, kc_0, O' _ f3]
  obtain ⟨st3, ln3, T3⟩ := J3 8 (by omega) (by omega)
  refine q_c0 (Nat.le_refl _) (Nat.le_refl _) ?_
  refine c_Fo_finds (nm := 1751672161) (O _ f3) (W _ f3) (B _ f3) T3 hN (by omega) (fun j3 k3 => ?_) (fun z => ?_)
  rotate_left
  · simp -implicitDefEqProofs only [s_go, s_nil, s_cons, q_ins, s_op, s_i, s_j, s_a, s_v, s_li, s_lj, s_la, s_liO, s_ljO, s_laO, q_get, q_p1, q_p2, s_n2i, s_n2r, s_n2l, s_n2n, q_pad, q_ar, s_ob, s_obO, q_nth, s_ri, s_riO, s_rb, s_rbO, s_rzO, s_rl, s_rlO, s_rq, s_rqO, s_ry, s_ryO, s_dn, s_tl, s_tn, s_ap, s_an, s_ci, s_cr, s_ni, s_n0, s_n1, q_ags, q_cat, List.contains_nil, List.contains_cons, Nat.reduceBEq, Bool.or_false, Bool.false_or, Bool.true_or, Bool.false_eq_true, ↓reduceIte, Nat.le_refl, Nat.zero_le, true_and, and_true, Nat.reduceLeDiff, Nat.reduceAdd, Nat.add_zero, Nat.zero_add, List.length_cons, List.length_nil, List.set_cons_zero, List.set_cons_succ, Nat.reduceLT, s_fi, s_fl, s_fo, s_fa, s_f0, s_f1, s_set, s_ss, lg_cmp_ge, lg_cmp_le, lg_cmp_gt, lg_cmp_lt, lg_cmp_eq, s_brT, s_brF, s_10, w_Fo_hasTables, r_Fo_hasTables, l_Fo_hasTables_0, l_Fo_hasTables_95, l_Fo_hasTables_96, f_3_30, ki_3_125, ml_3_126, w_Fo_finds, f_3_33, ki_3_130, f_3_36, ki_3_131, f_3_39, ki_3_132, f_3_42, ki_3_133, f_3_45, ki_3_134, f_3_48, ki_3_135, kc_1, kc_0, O' _ f3]
    exact q0 (Or.inr (Or.inr (Or.inr (Or.inl z)))) _ f3 J3
  generalize hh4 : q_set h3 (o + 8) _ = h4
  have f4 : q_fT h h4 o := by rw [← hh4]; exact f3.set (by omega) (by omega) _
  have J4 : q_TJ h4 o := by rw [← hh4]; exact J3.set 8 _ _
  have S4_0 : q_Ta h4 (o + 5) (o + 1) (T_p F sz j0) (T_l F sz j0) := by unfold q_Ta; rw [← hh4, s_ne _ _ (by omega)]; exact S3_0
  have S4_1 : q_Ta h4 (o + 6) (o + 1) (T_p F sz j1) (T_l F sz j1) := by unfold q_Ta; rw [← hh4, s_ne _ _ (by omega)]; exact S3_1
  have S4_2 : q_Ta h4 (o + 7) (o + 1) (T_p F sz j2) (T_l F sz j2) := by unfold q_Ta; rw [← hh4, s_ne _ _ (by omega)]; exact S3_2
  have S4_3 : q_Ta h4 (o + 8) (o + 1) (T_p F sz j3) (T_l F sz j3) := by unfold q_Ta; rw [← hh4]; exact s_set _ _ _
  simp -implicitDefEqProofs only [s_go, s_nil, s_cons, q_ins, s_op, s_i, s_j, s_a, s_v, s_li, s_lj, s_la, s_liO, s_ljO, s_laO, q_get, q_p1, q_p2, s_n2i, s_n2r, s_n2l, s_n2n, q_pad, q_ar, s_ob, s_obO, q_nth, s_ri, s_riO, s_rb, s_rbO, s_rzO, s_rl, s_rlO, s_rq, s_rqO, s_ry, s_ryO, s_dn, s_tl, s_tn, s_ap, s_an, s_ci, s_cr, s_ni, s_n0, s_n1, q_ags, q_cat, List.contains_nil, List.contains_cons, Nat.reduceBEq, Bool.or_false, Bool.false_or, Bool.true_or, Bool.false_eq_true, ↓reduceIte, Nat.le_refl, Nat.zero_le, true_and, and_true, Nat.reduceLeDiff, Nat.reduceAdd, Nat.add_zero, Nat.zero_add, List.length_cons, List.length_nil, List.set_cons_zero, List.set_cons_succ, Nat.reduceLT, s_fi, s_fl, s_fo, s_fa, s_f0, s_f1, s_set, s_ss, lg_cmp_ge, lg_cmp_le, lg_cmp_gt, lg_cmp_lt, lg_cmp_eq, s_brT, s_brF, s_10, w_Fo_hasTables, r_Fo_hasTables, l_Fo_hasTables_0, l_Fo_hasTables_95, l_Fo_hasTables_96, f_3_30, ki_3_125, ml_3_126, w_Fo_finds, f_3_33, ki_3_130, f_3_36, ki_3_131, f_3_39, ki_3_132, f_3_42, ki_3_133, f_3_45, ki_3_134, f_3_48, ki_3_135, kc_1, kc_0, O' _ f4]
  obtain ⟨st4, ln4, T4⟩ := J4 9 (by omega) (by omega)
  refine q_c0 (Nat.le_refl _) (Nat.le_refl _) ?_
  refine c_Fo_finds (nm := 1752003704) (O _ f4) (W _ f4) (B _ f4) T4 hN (by omega) (fun j4 k4 => ?_) (fun z => ?_)
  rotate_left
  · simp -implicitDefEqProofs only [s_go, s_nil, s_cons, q_ins, s_op, s_i, s_j, s_a, s_v, s_li, s_lj, s_la, s_liO, s_ljO, s_laO, q_get, q_p1, q_p2, s_n2i, s_n2r, s_n2l, s_n2n, q_pad, q_ar, s_ob, s_obO, q_nth, s_ri, s_riO, s_rb, s_rbO, s_rzO, s_rl, s_rlO, s_rq, s_rqO, s_ry, s_ryO, s_dn, s_tl, s_tn, s_ap, s_an, s_ci, s_cr, s_ni, s_n0, s_n1, q_ags, q_cat, List.contains_nil, List.contains_cons, Nat.reduceBEq, Bool.or_false, Bool.false_or, Bool.true_or, Bool.false_eq_true, ↓reduceIte, Nat.le_refl, Nat.zero_le, true_and, and_true, Nat.reduceLeDiff, Nat.reduceAdd, Nat.add_zero, Nat.zero_add, List.length_cons, List.length_nil, List.set_cons_zero, List.set_cons_succ, Nat.reduceLT, s_fi, s_fl, s_fo, s_fa, s_f0, s_f1, s_set, s_ss, lg_cmp_ge, lg_cmp_le, lg_cmp_gt, lg_cmp_lt, lg_cmp_eq, s_brT, s_brF, s_10, w_Fo_hasTables, r_Fo_hasTables, l_Fo_hasTables_0, l_Fo_hasTables_95, l_Fo_hasTables_96, f_3_30, ki_3_125, ml_3_126, w_Fo_finds, f_3_33, ki_3_130, f_3_36, ki_3_131, f_3_39, ki_3_132, f_3_42, ki_3_133, f_3_45, ki_3_134, f_3_48, ki_3_135, kc_1, kc_0, O' _ f4]
    exact q0 (Or.inr (Or.inr (Or.inr (Or.inr (Or.inl z))))) _ f4 J4
  generalize hh5 : q_set h4 (o + 9) _ = h5
  have f5 : q_fT h h5 o := by rw [← hh5]; exact f4.set (by omega) (by omega) _
  have J5 : q_TJ h5 o := by rw [← hh5]; exact J4.set 9 _ _
  have S5_0 : q_Ta h5 (o + 5) (o + 1) (T_p F sz j0) (T_l F sz j0) := by unfold q_Ta; rw [← hh5, s_ne _ _ (by omega)]; exact S4_0
  have S5_1 : q_Ta h5 (o + 6) (o + 1) (T_p F sz j1) (T_l F sz j1) := by unfold q_Ta; rw [← hh5, s_ne _ _ (by omega)]; exact S4_1
  have S5_2 : q_Ta h5 (o + 7) (o + 1) (T_p F sz j2) (T_l F sz j2) := by unfold q_Ta; rw [← hh5, s_ne _ _ (by omega)]; exact S4_2
  have S5_3 : q_Ta h5 (o + 8) (o + 1) (T_p F sz j3) (T_l F sz j3) := by unfold q_Ta; rw [← hh5, s_ne _ _ (by omega)]; exact S4_3
  have S5_4 : q_Ta h5 (o + 9) (o + 1) (T_p F sz j4) (T_l F sz j4) := by unfold q_Ta; rw [← hh5]; exact s_set _ _ _
  simp -implicitDefEqProofs only [s_go, s_nil, s_cons, q_ins, s_op, s_i, s_j, s_a, s_v, s_li, s_lj, s_la, s_liO, s_ljO, s_laO, q_get, q_p1, q_p2, s_n2i, s_n2r, s_n2l, s_n2n, q_pad, q_ar, s_ob, s_obO, q_nth, s_ri, s_riO, s_rb, s_rbO, s_rzO, s_rl, s_rlO, s_rq, s_rqO, s_ry, s_ryO, s_dn, s_tl, s_tn, s_ap, s_an, s_ci, s_cr, s_ni, s_n0, s_n1, q_ags, q_cat, List.contains_nil, List.contains_cons, Nat.reduceBEq, Bool.or_false, Bool.false_or, Bool.true_or, Bool.false_eq_true, ↓reduceIte, Nat.le_refl, Nat.zero_le, true_and, and_true, Nat.reduceLeDiff, Nat.reduceAdd, Nat.add_zero, Nat.zero_add, List.length_cons, List.length_nil, List.set_cons_zero, List.set_cons_succ, Nat.reduceLT, s_fi, s_fl, s_fo, s_fa, s_f0, s_f1, s_set, s_ss, lg_cmp_ge, lg_cmp_le, lg_cmp_gt, lg_cmp_lt, lg_cmp_eq, s_brT, s_brF, s_10, w_Fo_hasTables, r_Fo_hasTables, l_Fo_hasTables_0, l_Fo_hasTables_95, l_Fo_hasTables_96, f_3_30, ki_3_125, ml_3_126, w_Fo_finds, f_3_33, ki_3_130, f_3_36, ki_3_131, f_3_39, ki_3_132, f_3_42, ki_3_133, f_3_45, ki_3_134, f_3_48, ki_3_135, kc_1, kc_0, O' _ f5]
  obtain ⟨st5, ln5, T5⟩ := J5 10 (by omega) (by omega)
  refine q_c0 (Nat.le_refl _) (Nat.le_refl _) ?_
  refine c_Fo_finds (nm := 1819239265) (O _ f5) (W _ f5) (B _ f5) T5 hN (by omega) (fun j5 k5 => ?_) (fun z => ?_)
  rotate_left
  · simp -implicitDefEqProofs only [s_go, s_nil, s_cons, q_ins, s_op, s_i, s_j, s_a, s_v, s_li, s_lj, s_la, s_liO, s_ljO, s_laO, q_get, q_p1, q_p2, s_n2i, s_n2r, s_n2l, s_n2n, q_pad, q_ar, s_ob, s_obO, q_nth, s_ri, s_riO, s_rb, s_rbO, s_rzO, s_rl, s_rlO, s_rq, s_rqO, s_ry, s_ryO, s_dn, s_tl, s_tn, s_ap, s_an, s_ci, s_cr, s_ni, s_n0, s_n1, q_ags, q_cat, List.contains_nil, List.contains_cons, Nat.reduceBEq, Bool.or_false, Bool.false_or, Bool.true_or, Bool.false_eq_true, ↓reduceIte, Nat.le_refl, Nat.zero_le, true_and, and_true, Nat.reduceLeDiff, Nat.reduceAdd, Nat.add_zero, Nat.zero_add, List.length_cons, List.length_nil, List.set_cons_zero, List.set_cons_succ, Nat.reduceLT, s_fi, s_fl, s_fo, s_fa, s_f0, s_f1, s_set, s_ss, lg_cmp_ge, lg_cmp_le, lg_cmp_gt, lg_cmp_lt, lg_cmp_eq, s_brT, s_brF, s_10, w_Fo_hasTables, r_Fo_hasTables, l_Fo_hasTables_0, l_Fo_hasTables_95, l_Fo_hasTables_96, f_3_30, ki_3_125, ml_3_126, w_Fo_finds, f_3_33, ki_3_130, f_3_36, ki_3_131, f_3_39, ki_3_132, f_3_42, ki_3_133, f_3_45, ki_3_134, f_3_48, ki_3_135, kc_1, kc_0, O' _ f5]
    exact q0 (Or.inr (Or.inr (Or.inr (Or.inr (Or.inr (Or.inl z)))))) _ f5 J5
  generalize hh6 : q_set h5 (o + 10) _ = h6
  have f6 : q_fT h h6 o := by rw [← hh6]; exact f5.set (by omega) (by omega) _
  have J6 : q_TJ h6 o := by rw [← hh6]; exact J5.set 10 _ _
  have S6_0 : q_Ta h6 (o + 5) (o + 1) (T_p F sz j0) (T_l F sz j0) := by unfold q_Ta; rw [← hh6, s_ne _ _ (by omega)]; exact S5_0
  have S6_1 : q_Ta h6 (o + 6) (o + 1) (T_p F sz j1) (T_l F sz j1) := by unfold q_Ta; rw [← hh6, s_ne _ _ (by omega)]; exact S5_1
  have S6_2 : q_Ta h6 (o + 7) (o + 1) (T_p F sz j2) (T_l F sz j2) := by unfold q_Ta; rw [← hh6, s_ne _ _ (by omega)]; exact S5_2
  have S6_3 : q_Ta h6 (o + 8) (o + 1) (T_p F sz j3) (T_l F sz j3) := by unfold q_Ta; rw [← hh6, s_ne _ _ (by omega)]; exact S5_3
  have S6_4 : q_Ta h6 (o + 9) (o + 1) (T_p F sz j4) (T_l F sz j4) := by unfold q_Ta; rw [← hh6, s_ne _ _ (by omega)]; exact S5_4
  have S6_5 : q_Ta h6 (o + 10) (o + 1) (T_p F sz j5) (T_l F sz j5) := by unfold q_Ta; rw [← hh6]; exact s_set _ _ _
  simp -implicitDefEqProofs only [s_go, s_nil, s_cons, q_ins, s_op, s_i, s_j, s_a, s_v, s_li, s_lj, s_la, s_liO, s_ljO, s_laO, q_get, q_p1, q_p2, s_n2i, s_n2r, s_n2l, s_n2n, q_pad, q_ar, s_ob, s_obO, q_nth, s_ri, s_riO, s_rb, s_rbO, s_rzO, s_rl, s_rlO, s_rq, s_rqO, s_ry, s_ryO, s_dn, s_tl, s_tn, s_ap, s_an, s_ci, s_cr, s_ni, s_n0, s_n1, q_ags, q_cat, List.contains_nil, List.contains_cons, Nat.reduceBEq, Bool.or_false, Bool.false_or, Bool.true_or, Bool.false_eq_true, ↓reduceIte, Nat.le_refl, Nat.zero_le, true_and, and_true, Nat.reduceLeDiff, Nat.reduceAdd, Nat.add_zero, Nat.zero_add, List.length_cons, List.length_nil, List.set_cons_zero, List.set_cons_succ, Nat.reduceLT, s_fi, s_fl, s_fo, s_fa, s_f0, s_f1, s_set, s_ss, lg_cmp_ge, lg_cmp_le, lg_cmp_gt, lg_cmp_lt, lg_cmp_eq, s_brT, s_brF, s_10, w_Fo_hasTables, r_Fo_hasTables, l_Fo_hasTables_0, l_Fo_hasTables_95, l_Fo_hasTables_96, f_3_30, ki_3_125, ml_3_126, w_Fo_finds, f_3_33, ki_3_130, f_3_36, ki_3_131, f_3_39, ki_3_132, f_3_42, ki_3_133, f_3_45, ki_3_134, f_3_48, ki_3_135, kc_1, kc_0, O' _ f6]
  obtain ⟨st6, ln6, T6⟩ := J6 11 (by omega) (by omega)
  refine q_c0 (Nat.le_refl _) (Nat.le_refl _) ?_
  refine c_Fo_finds (nm := 1835104368) (O _ f6) (W _ f6) (B _ f6) T6 hN (by omega) (fun j6 k6 => ?_) (fun z => ?_)
  rotate_left
  · simp -implicitDefEqProofs only [s_go, s_nil, s_cons, q_ins, s_op, s_i, s_j, s_a, s_v, s_li, s_lj, s_la, s_liO, s_ljO, s_laO, q_get, q_p1, q_p2, s_n2i, s_n2r, s_n2l, s_n2n, q_pad, q_ar, s_ob, s_obO, q_nth, s_ri, s_riO, s_rb, s_rbO, s_rzO, s_rl, s_rlO, s_rq, s_rqO, s_ry, s_ryO, s_dn, s_tl, s_tn, s_ap, s_an, s_ci, s_cr, s_ni, s_n0, s_n1, q_ags, q_cat, List.contains_nil, List.contains_cons, Nat.reduceBEq, Bool.or_false, Bool.false_or, Bool.true_or, Bool.false_eq_true, ↓reduceIte, Nat.le_refl, Nat.zero_le, true_and, and_true, Nat.reduceLeDiff, Nat.reduceAdd, Nat.add_zero, Nat.zero_add, List.length_cons, List.length_nil, List.set_cons_zero, List.set_cons_succ, Nat.reduceLT, s_fi, s_fl, s_fo, s_fa, s_f0, s_f1, s_set, s_ss, lg_cmp_ge, lg_cmp_le, lg_cmp_gt, lg_cmp_lt, lg_cmp_eq, s_brT, s_brF, s_10, w_Fo_hasTables, r_Fo_hasTables, l_Fo_hasTables_0, l_Fo_hasTables_95, l_Fo_hasTables_96, f_3_30, ki_3_125, ml_3_126, w_Fo_finds, f_3_33, ki_3_130, f_3_36, ki_3_131, f_3_39, ki_3_132, f_3_42, ki_3_133, f_3_45, ki_3_134, f_3_48, ki_3_135, kc_1, kc_0, O' _ f6]
    exact q0 (Or.inr (Or.inr (Or.inr (Or.inr (Or.inr (Or.inr (z))))))) _ f6 J6
  generalize hh7 : q_set h6 (o + 11) _ = h7
  have f7 : q_fT h h7 o := by rw [← hh7]; exact f6.set (by omega) (by omega) _
  have J7 : q_TJ h7 o := by rw [← hh7]; exact J6.set 11 _ _
  have S7_0 : q_Ta h7 (o + 5) (o + 1) (T_p F sz j0) (T_l F sz j0) := by unfold q_Ta; rw [← hh7, s_ne _ _ (by omega)]; exact S6_0
  have S7_1 : q_Ta h7 (o + 6) (o + 1) (T_p F sz j1) (T_l F sz j1) := by unfold q_Ta; rw [← hh7, s_ne _ _ (by omega)]; exact S6_1
  have S7_2 : q_Ta h7 (o + 7) (o + 1) (T_p F sz j2) (T_l F sz j2) := by unfold q_Ta; rw [← hh7, s_ne _ _ (by omega)]; exact S6_2
  have S7_3 : q_Ta h7 (o + 8) (o + 1) (T_p F sz j3) (T_l F sz j3) := by unfold q_Ta; rw [← hh7, s_ne _ _ (by omega)]; exact S6_3
  have S7_4 : q_Ta h7 (o + 9) (o + 1) (T_p F sz j4) (T_l F sz j4) := by unfold q_Ta; rw [← hh7, s_ne _ _ (by omega)]; exact S6_4
  have S7_5 : q_Ta h7 (o + 10) (o + 1) (T_p F sz j5) (T_l F sz j5) := by unfold q_Ta; rw [← hh7, s_ne _ _ (by omega)]; exact S6_5
  have S7_6 : q_Ta h7 (o + 11) (o + 1) (T_p F sz j6) (T_l F sz j6) := by unfold q_Ta; rw [← hh7]; exact s_set _ _ _
  simp -implicitDefEqProofs only [s_go, s_nil, s_cons, q_ins, s_op, s_i, s_j, s_a, s_v, s_li, s_lj, s_la, s_liO, s_ljO, s_laO, q_get, q_p1, q_p2, s_n2i, s_n2r, s_n2l, s_n2n, q_pad, q_ar, s_ob, s_obO, q_nth, s_ri, s_riO, s_rb, s_rbO, s_rzO, s_rl, s_rlO, s_rq, s_rqO, s_ry, s_ryO, s_dn, s_tl, s_tn, s_ap, s_an, s_ci, s_cr, s_ni, s_n0, s_n1, q_ags, q_cat, List.contains_nil, List.contains_cons, Nat.reduceBEq, Bool.or_false, Bool.false_or, Bool.true_or, Bool.false_eq_true, ↓reduceIte, Nat.le_refl, Nat.zero_le, true_and, and_true, Nat.reduceLeDiff, Nat.reduceAdd, Nat.add_zero, Nat.zero_add, List.length_cons, List.length_nil, List.set_cons_zero, List.set_cons_succ, Nat.reduceLT, s_fi, s_fl, s_fo, s_fa, s_f0, s_f1, s_set, s_ss, lg_cmp_ge, lg_cmp_le, lg_cmp_gt, lg_cmp_lt, lg_cmp_eq, s_brT, s_brF, s_10, w_Fo_hasTables, r_Fo_hasTables, l_Fo_hasTables_0, l_Fo_hasTables_95, l_Fo_hasTables_96, f_3_30, ki_3_125, ml_3_126, w_Fo_finds, f_3_33, ki_3_130, f_3_36, ki_3_131, f_3_39, ki_3_132, f_3_42, ki_3_133, f_3_45, ki_3_134, f_3_48, ki_3_135, kc_1, kc_0, O' _ f7]
  exact q1 j0 j1 j2 j3 j4 j5 j6 k0 k1 k2 k3 k4 k5 k6 _ f7 S7_0 S7_1 S7_2 S7_3 S7_4 S7_5 S7_6
