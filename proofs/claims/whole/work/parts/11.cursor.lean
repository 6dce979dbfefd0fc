/-! Cursor -/
def q_Cu (h : q_H) (a f p e : Nat) (ro : Int32) : Prop := h a = some (.inr (2, [.ref f, .int (nI p), .int (nI e), .int ro]))
def e_Cu (f p e : Nat) (ro : Int32) : q_E := .inr (2, [.ref f, .int (nI p), .int (nI e), .int ro])
theorem q_nlt {a b : Nat} (ha : a < 2 ^ 31) (hb : b < 2 ^ 31) (h : ¬ nI a < nI b) : b ≤ a := by
  rcases Nat.lt_or_ge a b with q | q
  · exact absurd ((nI_ltI ha hb).mpr q) h
  · exact q
theorem q_nle {a b : Nat} (ha : a < 2 ^ 31) (hb : b < 2 ^ 31) (h : ¬ nI a ≤ nI b) : b < a := by
  rcases Nat.lt_or_ge b a with q | q
  · exact q
  · exact absurd ((nI_leI ha hb).mpr q) h
theorem nI_1' : (1 : Int32) = nI 1 := rfl
theorem nI_2' : (2 : Int32) = nI 2 := rfl
set_option maxRecDepth 100000 in
set_option maxHeartbeats 4000000 in
theorem c_Cu_u8 {G : q_G} {l : Launch} {d a f row m n sz p e : Nat} {ro : Int32} {g : Nat → Int32} {F : Nat → Nat} {h : q_H} {Q : q_P} (hC : q_Cu h a f p e ro) (hB : q_By h f row m g sz F) (he : e ≤ sz) (hpe : p ≤ e)
    (q1 : p < e → Q (some (.int (nI (F p)))) (q_set h a (e_Cu f (p + 1) e ro)) n) (q2 : e ≤ p → Q (some (.int 0)) (q_set h a (e_Cu f p e 1)) n) : q_Call G l M_Cu_u8 d 0 0 [.ref a] h n Q := by
  obtain ⟨h2, h3, hsz, hm, hg, hb, hF⟩ := hB
  have h1 : h a = some (.inr (2, [.ref f, .int (nI p), .int (nI e), .int ro])) := hC
  refine q_in u_Cu_u8 (by rw [L_Cu_u8]; exact Nat.le_of_ble_eq_true rfl) ?_
  rw [L_Cu_u8]
  refine q_at o_Cu_u8 [] 20 l_Cu_u8_0 ?_
  simp -implicitDefEqProofs only [s_go, s_nil, s_cons, q_ins, s_op, s_i, s_j, s_a, s_v, s_li, s_lj, s_la, s_liO, s_ljO, s_laO, q_get, q_p1, q_p2, s_n2i, s_n2r, s_n2l, s_n2n, q_pad, q_ar, s_ob, s_obO, q_nth, s_ri, s_riO, s_rb, s_rbO, s_rzO, s_rl, s_rlO, s_rq, s_rqO, s_ry, s_ryO, s_dn, s_tl, s_tn, s_ap, s_an, s_ci, s_cr, s_ni, s_n0, s_n1, q_ags, q_cat, List.contains_nil, List.contains_cons, Nat.reduceBEq, Bool.or_false, Bool.false_or, Bool.true_or, Bool.false_eq_true, ↓reduceIte, Nat.le_refl, Nat.zero_le, true_and, and_true, Nat.reduceLeDiff, Nat.reduceAdd, Nat.add_zero, Nat.zero_add, List.length_cons, List.length_nil, List.set_cons_zero, List.set_cons_succ, Nat.reduceLT, s_fi, s_fl, s_fo, s_fa, s_f0, s_f1, s_set, s_ss, lg_cmp_ge, lg_cmp_le, lg_cmp_gt, lg_cmp_lt, lg_cmp_eq, s_brT, s_brF, s_10, w_Cu_u8, r_Cu_u8, l_Cu_u8_0, l_Cu_u8_20, l_Cu_u8_27, f_2_13, f_2_17, kc_1, f_2_20, ty_2_3, kc_0, f_2_7, f_2_41, ks_255, ty_2_1, h1, h2, h3, pk_sub hpe]
  refine ⟨fun c => absurd c (nI_pos (by omega)), fun _ => ⟨fun c => ?_, fun c => ?_⟩⟩
  · have hl : p < e := by have := (nI_leI (a := 1) (by omega) (by omega)).mp c; omega
    refine ⟨vp_in_nI (by omega) (by omega), ?_⟩
    rw [nI_clamp (by omega), hg p (by omega), nI_1]
    exact q1 hl
  · exact q2 (by have := q_nle (a := 1) (by omega) (by omega) c; omega)
set_option maxRecDepth 100000 in
set_option maxHeartbeats 4000000 in
theorem c_Cu_u16 {G : q_G} {l : Launch} {d a f row m n sz p e : Nat} {ro : Int32} {g : Nat → Int32} {F : Nat → Nat} {h : q_H} {Q : q_P} (hC : q_Cu h a f p e ro) (hB : q_By h f row m g sz F) (he : e ≤ sz) (hpe : p ≤ e)
    (q1 : p + 2 ≤ e → Q (some (.int (nI (256 * F p + F (p + 1))))) (q_set h a (e_Cu f (p + 2) e ro)) n) (q2 : e < p + 2 → Q (some (.int 0)) (q_set h a (e_Cu f p e 1)) n) : q_Call G l M_Cu_u16 d 0 0 [.ref a] h n Q := by
  obtain ⟨h2, h3, hsz, hm, hg, hb, hF⟩ := hB
  have h1 : h a = some (.inr (2, [.ref f, .int (nI p), .int (nI e), .int ro])) := hC
  refine q_in u_Cu_u16 (by rw [L_Cu_u16]; exact Nat.le_of_ble_eq_true rfl) ?_
  rw [L_Cu_u16]
  refine q_at o_Cu_u16 [] 20 l_Cu_u16_0 ?_
  simp -implicitDefEqProofs only [s_go, s_nil, s_cons, q_ins, s_op, s_i, s_j, s_a, s_v, s_li, s_lj, s_la, s_liO, s_ljO, s_laO, q_get, q_p1, q_p2, s_n2i, s_n2r, s_n2l, s_n2n, q_pad, q_ar, s_ob, s_obO, q_nth, s_ri, s_riO, s_rb, s_rbO, s_rzO, s_rl, s_rlO, s_rq, s_rqO, s_ry, s_ryO, s_dn, s_tl, s_tn, s_ap, s_an, s_ci, s_cr, s_ni, s_n0, s_n1, q_ags, q_cat, List.contains_nil, List.contains_cons, Nat.reduceBEq, Bool.or_false, Bool.false_or, Bool.true_or, Bool.false_eq_true, ↓reduceIte, Nat.le_refl, Nat.zero_le, true_and, and_true, Nat.reduceLeDiff, Nat.reduceAdd, Nat.add_zero, Nat.zero_add, List.length_cons, List.length_nil, List.set_cons_zero, List.set_cons_succ, Nat.reduceLT, s_fi, s_fl, s_fo, s_fa, s_f0, s_f1, s_set, s_ss, lg_cmp_ge, lg_cmp_le, lg_cmp_gt, lg_cmp_lt, lg_cmp_eq, s_brT, s_brF, s_10, w_Cu_u16, r_Cu_u16, l_Cu_u16_0, l_Cu_u16_20, l_Cu_u16_27, f_2_13, f_2_17, kc_2, kc_1, f_2_20, ty_2_3, kc_0, f_2_7, f_2_41, ks_255, kb_8, ty_2_1, h1, h2, h3, pk_sub hpe, nI_1]
  refine ⟨fun c => absurd c (nI_pos (by omega)), fun _ => ⟨fun c => ?_, fun c => ?_⟩⟩
  · have hl : p + 2 ≤ e := by have := (nI_leI (a := 2) (by omega) (by omega)).mp c; omega
    refine ⟨vp_in_nI (by omega) (by omega), vp_in_nI (by omega) (by omega), ?_⟩
    rw [nI_clamp (by omega), nI_clamp (by omega), hg p (by omega), hg (p + 1) (by omega), q_shl _ _ 8 (by decide) (by have := hF p; omega), q_or (k := 8) (hF _), show nI p + 2 = nI (p + 2) from nI_add p 2]
    exact q1 hl
  · exact q2 (by have := q_nle (a := 2) (by omega) (by omega) c; omega)
set_option maxRecDepth 100000 in
set_option maxHeartbeats 4000000 in
theorem c_Cu_pass {G : q_G} {l : Launch} {d a f n p e k : Nat} {ro : Int32} {h : q_H} {Q : q_P} (hC : q_Cu h a f p e ro) (he : e ≤ 16384) (hpe : p ≤ e) (hk : k < 65536)
    (q1 : p + k ≤ e → Q none (q_set h a (e_Cu f (p + k) e ro)) n) (q2 : e < p + k → Q none (q_set h a (e_Cu f p e 1)) n) : q_Call G l M_Cu_pass d 0 0 [.ref a, .int (nI k)] h n Q := by
  have h1 : h a = some (.inr (2, [.ref f, .int (nI p), .int (nI e), .int ro])) := hC
  refine q_in u_Cu_pass (by rw [L_Cu_pass]; exact Nat.le_of_ble_eq_true rfl) ?_
  rw [L_Cu_pass]
  refine q_at o_Cu_pass [] 20 l_Cu_pass_0 ?_
  simp -implicitDefEqProofs only [s_go, s_nil, s_cons, q_ins, s_op, s_i, s_j, s_a, s_v, s_li, s_lj, s_la, s_liO, s_ljO, s_laO, q_get, q_p1, q_p2, s_n2i, s_n2r, s_n2l, s_n2n, q_pad, q_ar, s_ob, s_obO, q_nth, s_ri, s_riO, s_rb, s_rbO, s_rzO, s_rl, s_rlO, s_rq, s_rqO, s_ry, s_ryO, s_dn, s_tl, s_tn, s_ap, s_an, s_ci, s_cr, s_ni, s_n0, s_n1, q_ags, q_cat, List.contains_nil, List.contains_cons, Nat.reduceBEq, Bool.or_false, Bool.false_or, Bool.true_or, Bool.false_eq_true, ↓reduceIte, Nat.le_refl, Nat.zero_le, true_and, and_true, Nat.reduceLeDiff, Nat.reduceAdd, Nat.add_zero, Nat.zero_add, List.length_cons, List.length_nil, List.set_cons_zero, List.set_cons_succ, Nat.reduceLT, s_fi, s_fl, s_fo, s_fa, s_f0, s_f1, s_set, s_ss, lg_cmp_ge, lg_cmp_le, lg_cmp_gt, lg_cmp_lt, lg_cmp_eq, s_brT, s_brF, s_10, w_Cu_pass, r_Cu_pass, l_Cu_pass_0, l_Cu_pass_21, l_Cu_pass_31, f_2_17, f_2_13, kc_1, f_2_20, ty_2_3, ty_2_1, h1, pk_sub hpe]
  refine ⟨fun c => ?_, fun c => ?_⟩
  · rw [nI_add]
    exact q1 (by have := (nI_leI (by omega) (by omega)).mp c; omega)
  · exact q2 (by have := q_nle (by omega) (by omega) c; omega)
set_option maxRecDepth 100000 in
set_option maxHeartbeats 4000000 in
theorem c_Cu_begin {G : q_G} {l : Launch} {d a b f f' row n sz st ln fr to p e : Nat} {ro : Int32} {h : q_H} {Q : q_P} (hab : a ≠ b) (haf : f ≠ a) (hC : q_Cu h a f' p e ro) (hT : q_Ta h b f st ln) (hf : h f = some (.inr (0, [.ref row, .int (nI sz)]))) (hsz : sz ≤ 16384) (hto : st + to ≤ sz) (hfr : fr ≤ to)
    (q1 : Q none (q_set h a (e_Cu f (st + fr) (st + to) 0)) n) : q_Call G l M_Cu_begin (d + 1) 0 0 [.ref a, .ref b, .int (nI fr), .int (nI to)] h n Q := by
  have h1 : h a = some (.inr (2, [.ref f', .int (nI p), .int (nI e), .int ro])) := hC
  have h2 : h b = some (.inr (6, [.ref f, .int (nI st), .int (nI ln)])) := hT
  refine q_in u_Cu_begin (by rw [L_Cu_begin]; exact Nat.le_of_ble_eq_true rfl) ?_
  rw [L_Cu_begin]
  refine q_at o_Cu_begin [] 20 l_Cu_begin_0 ?_
  simp -implicitDefEqProofs only [s_go, s_nil, s_cons, q_ins, s_op, s_i, s_j, s_a, s_v, s_li, s_lj, s_la, s_liO, s_ljO, s_laO, q_get, q_p1, q_p2, s_n2i, s_n2r, s_n2l, s_n2n, q_pad, q_ar, s_ob, s_obO, q_nth, s_ri, s_riO, s_rb, s_rbO, s_rzO, s_rl, s_rlO, s_rq, s_rqO, s_ry, s_ryO, s_dn, s_tl, s_tn, s_ap, s_an, s_ci, s_cr, s_ni, s_n0, s_n1, q_ags, q_cat, List.contains_nil, List.contains_cons, Nat.reduceBEq, Bool.or_false, Bool.false_or, Bool.true_or, Bool.false_eq_true, ↓reduceIte, Nat.le_refl, Nat.zero_le, true_and, and_true, Nat.reduceLeDiff, Nat.reduceAdd, Nat.add_zero, Nat.zero_add, List.length_cons, List.length_nil, List.set_cons_zero, List.set_cons_succ, Nat.reduceLT, s_fi, s_fl, s_fo, s_fa, s_f0, s_f1, s_set, s_ss, lg_cmp_ge, lg_cmp_le, lg_cmp_gt, lg_cmp_lt, lg_cmp_eq, s_brT, s_brF, s_10, w_Cu_begin, r_Cu_begin, l_Cu_begin_0, f_2_24, f_2_7, ty_2_0, f_2_27, f_2_13, ty_2_1, f_2_30, mm_2_35, q_ac_no_2_35, f_2_17, ty_2_2, kc_0, f_2_20, ty_2_3, h1, h2, hf, s_ne _ _ hab.symm, s_ne _ _ haf, nI_add, if_neg (nI_nlt (show st + to ≤ sz from hto) (by omega))]
  exact q1
set_option maxRecDepth 100000 in
set_option maxHeartbeats 4000000 in
theorem c_Cu_follow {G : q_G} {l : Launch} {d a b f f' n p e p' e' : Nat} {ro ro' : Int32} {h : q_H} {Q : q_P} (hab : a ≠ b) (hC : q_Cu h a f' p' e' ro') (hD : q_Cu h b f p e ro) (hro : q_fit .boolean (.int ro))
    (q1 : Q none (q_set h a (e_Cu f p e ro)) n) : q_Call G l M_Cu_follow d 0 0 [.ref a, .ref b] h n Q := by
  have h1 : h a = some (.inr (2, [.ref f', .int (nI p'), .int (nI e'), .int ro'])) := hC
  have h2 : h b = some (.inr (2, [.ref f, .int (nI p), .int (nI e), .int ro])) := hD
  refine q_in u_Cu_follow (by rw [L_Cu_follow]; exact Nat.le_of_ble_eq_true rfl) ?_
  rw [L_Cu_follow]
  refine q_at o_Cu_follow [] 20 l_Cu_follow_0 ?_
  simp -implicitDefEqProofs only [s_go, s_nil, s_cons, q_ins, s_op, s_i, s_j, s_a, s_v, s_li, s_lj, s_la, s_liO, s_ljO, s_laO, q_get, q_p1, q_p2, s_n2i, s_n2r, s_n2l, s_n2n, q_pad, q_ar, s_ob, s_obO, q_nth, s_ri, s_riO, s_rb, s_rbO, s_rzO, s_rl, s_rlO, s_rq, s_rqO, s_ry, s_ryO, s_dn, s_tl, s_tn, s_ap, s_an, s_ci, s_cr, s_ni, s_n0, s_n1, q_ags, q_cat, List.contains_nil, List.contains_cons, Nat.reduceBEq, Bool.or_false, Bool.false_or, Bool.true_or, Bool.false_eq_true, ↓reduceIte, Nat.le_refl, Nat.zero_le, true_and, and_true, Nat.reduceLeDiff, Nat.reduceAdd, Nat.add_zero, Nat.zero_add, List.length_cons, List.length_nil, List.set_cons_zero, List.set_cons_succ, Nat.reduceLT, s_fi, s_fl, s_fo, s_fa, s_f0, s_f1, s_set, s_ss, lg_cmp_ge, lg_cmp_le, lg_cmp_gt, lg_cmp_lt, lg_cmp_eq, s_brT, s_brF, s_10, w_Cu_follow, r_Cu_follow, l_Cu_follow_0, f_2_7, ty_2_0, f_2_13, ty_2_1, f_2_17, ty_2_2, f_2_20, ty_2_3, h1, h2, s_ne _ _ hab.symm]
  exact ⟨hro, q1⟩
