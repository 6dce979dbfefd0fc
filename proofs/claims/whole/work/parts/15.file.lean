/-! fewer locals; Font: the file -/
def q_le : q_L → q_L → Prop
  | [], _ => True
  | none :: r, _ :: r' => q_le r r'
  | some v :: r, o :: r' => o = some v ∧ q_le r r'
  | none :: r, [] => q_le r []
  | some _ :: _, [] => False
theorem q_le_g : ∀ (a b : q_L), q_le a b → ∀ i v, q_get a i = some v → q_get b i = some v
  | [], b, _, i, v, h => by simp [q_get] at h
  | none :: r, [], hh, 0, v, h => by simp [q_get] at h
  | none :: r, [], hh, i + 1, v, h => by simp only [q_get] at h; exact q_le_g r [] hh i v h
  | none :: r, _ :: r', hh, 0, v, h => by simp [q_get] at h
  | none :: r, _ :: r', hh, i + 1, v, h => by simp only [q_get] at h ⊢; exact q_le_g r r' hh i v h
  | some w :: r, o :: r', hh, 0, v, h => by simp only [q_get] at h ⊢; rw [hh.1]; exact h
  | some w :: r, o :: r', hh, i + 1, v, h => by simp only [q_get] at h ⊢; exact q_le_g r r' hh.2 i v h
  | some _ :: _, [], hh, i, v, h => hh.elim
theorem q_wk {G : q_G} {l : Launch} {M : q_MT} {d mc ms : Nat} {Q : q_P} {pc : Nat} {lv lv' : q_L} {st : List Value} {h : q_H} {n k sl : Nat} (hz : q_Z G l M d mc ms Q pc lv' st h n k sl) (hle : q_le lv' lv) : q_Z G l M d mc ms Q pc lv st h n k sl := by
  intro p e s m args below meth c H locs ls cx r hS hl
  refine hz p e s m args below meth c H locs ls cx r hS ⟨hl.1, hl.2.1, fun q hq => ?_⟩
  obtain ⟨j, h1, h2⟩ := (q_pr_m _ 0 q.1 q.2).mp hq
  exact hl.2.2 q ((q_pr_m _ 0 q.1 q.2).mpr ⟨j, h1, q_le_g _ _ hle j q.2 h2⟩)
def e_Fo (o : Nat) (em gl wd lp : Int32) : q_E := .inr (3, [.ref (o + 1), .ref (o + 3), .ref (o + 4), .ref (o + 5), .ref (o + 6), .ref (o + 7), .ref (o + 8), .ref (o + 9), .ref (o + 10), .ref (o + 11), .ref (o + 12), .int em, .int gl, .int wd, .int lp])
/-- the file's tables: how many, and of each name, sum, place, length -/
def NT (F : Nat → Nat) (sz : Nat) : Nat := U16 F 0 sz 4
def T_n (F : Nat → Nat) (sz k : Nat) : Nat := U32 F 0 sz (12 + 16 * k)
def T_s (F : Nat → Nat) (sz k : Nat) : Nat := U32 F 0 sz (12 + 16 * k + 4)
def T_p (F : Nat → Nat) (sz k : Nat) : Nat := U32 F 0 sz (12 + 16 * k + 8)
def T_l (F : Nat → Nat) (sz k : Nat) : Nat := U32 F 0 sz (12 + 16 * k + 12)
/-- the k-th entry is as it must be -/
def T_ok (F : Nat → Nat) (sz k : Nat) : Prop := (0 < k → T_n F sz (k - 1) < T_n F sz k) ∧ T_p F sz k + T_l F sz k ≤ sz
def FILE_ok (F : Nat → Nat) (sz : Nat) : Prop := U32 F 0 sz 0 = 65536 ∧ 1 ≤ NT F sz ∧ NT F sz ≤ 64 ∧ 12 + 16 * NT F sz ≤ sz ∧ ∀ k, k < NT F sz → T_ok F sz k
set_option maxRecDepth 100000 in
set_option maxHeartbeats 4000000 in
theorem c_Fo_tables {G : q_G} {l : Launch} {d o row m n sz : Nat} {em gl wd lp : Int32} {g : Nat → Int32} {F : Nat → Nat} {h : q_H} {Q : q_P} (hO : h o = some (e_Fo o em gl wd lp)) (hW : q_Ta h (o + 3) (o + 1) 0 sz) (hB : q_By h (o + 1) row m g sz F) (hq : Q (some (.int (nI (NT F sz)))) h n) : q_Call G l M_Fo_tables (d + 2) 0 0 [.ref o] h n Q := by
  unfold e_Fo at hO
  have hW' : h (o + 3) = some (.inr (6, [.ref (o + 1), .int (nI 0), .int (nI sz)])) := hW
  refine q_in u_Fo_tables (by rw [L_Fo_tables]; exact Nat.le_of_ble_eq_true rfl) ?_
  rw [L_Fo_tables]
  refine q_at o_Fo_tables [] 20 l_Fo_tables_0 ?_
  simp -implicitDefEqProofs only [s_go, s_nil, s_cons, q_ins, s_op, s_i, s_j, s_a, s_v, s_li, s_lj, s_la, s_liO, s_ljO, s_laO, q_get, q_p1, q_p2, s_n2i, s_n2r, s_n2l, s_n2n, q_pad, q_ar, s_ob, s_obO, q_nth, s_ri, s_riO, s_rb, s_rbO, s_rzO, s_rl, s_rlO, s_rq, s_rqO, s_ry, s_ryO, s_dn, s_tl, s_tn, s_ap, s_an, s_ci, s_cr, s_ni, s_n0, s_n1, q_ags, q_cat, List.contains_nil, List.contains_cons, Nat.reduceBEq, Bool.or_false, Bool.false_or, Bool.true_or, Bool.false_eq_true, ↓reduceIte, Nat.le_refl, Nat.zero_le, true_and, and_true, Nat.reduceLeDiff, Nat.reduceAdd, Nat.add_zero, Nat.zero_add, List.length_cons, List.length_nil, List.set_cons_zero, List.set_cons_succ, Nat.reduceLT, s_fi, s_fl, s_fo, s_fa, s_f0, s_f1, s_set, s_ss, lg_cmp_ge, lg_cmp_le, lg_cmp_gt, lg_cmp_lt, lg_cmp_eq, s_brT, s_brF, s_10, w_Fo_tables, r_Fo_tables, l_Fo_tables_0, f_3_23, kc_4, ml_3_90, w_Ta_u16, hO, hW']
  refine q_c0 (Nat.le_refl _) (Nat.le_refl _) ?_
  refine c_Ta_u16 (j := 4) hW hB (by omega) (by omega) ?_
  simp -implicitDefEqProofs only [s_go, s_nil, s_cons, q_ins, s_op, s_i, s_j, s_a, s_v, s_li, s_lj, s_la, s_liO, s_ljO, s_laO, q_get, q_p1, q_p2, s_n2i, s_n2r, s_n2l, s_n2n, q_pad, q_ar, s_ob, s_obO, q_nth, s_ri, s_riO, s_rb, s_rbO, s_rzO, s_rl, s_rlO, s_rq, s_rqO, s_ry, s_ryO, s_dn, s_tl, s_tn, s_ap, s_an, s_ci, s_cr, s_ni, s_n0, s_n1, q_ags, q_cat, List.contains_nil, List.contains_cons, Nat.reduceBEq, Bool.or_false, Bool.false_or, Bool.true_or, Bool.false_eq_true, ↓reduceIte, Nat.le_refl, Nat.zero_le, true_and, and_true, Nat.reduceLeDiff, Nat.reduceAdd, Nat.add_zero, Nat.zero_add, List.length_cons, List.length_nil, List.set_cons_zero, List.set_cons_succ, Nat.reduceLT, s_fi, s_fl, s_fo, s_fa, s_f0, s_f1, s_set, s_ss, lg_cmp_ge, lg_cmp_le, lg_cmp_gt, lg_cmp_lt, lg_cmp_eq, s_brT, s_brF, s_10, w_Fo_tables, r_Fo_tables, l_Fo_tables_0, f_3_23, kc_4, ml_3_90, w_Ta_u16, hO, hW']
  exact hq
def q_bf (F : Nat → Nat) (sz k : Nat) : Int64 := if k = 0 then -1 else lN (T_n F sz (k - 1))
theorem q_lm1 {a : Nat} (h : a < 2 ^ 63) : ¬ lN a ≤ -1 := by
  rw [Int64.le_iff_toInt_le, pk_lT h]
  show ¬ (a : Int) ≤ (-1 : Int64).toInt
  rw [show (-1 : Int64).toInt = -1 from rfl]
  omega
theorem q_bf_le {F : Nat → Nat} (hF : ∀ j, F j < 256) {sz k : Nat} : (lN (T_n F sz k) ≤ q_bf F sz k) ↔ ¬ (0 < k → T_n F sz (k - 1) < T_n F sz k) := by
  have b1 := U32_lt hF 0 sz (12 + 16 * k)
  have b2 := U32_lt hF 0 sz (12 + 16 * (k - 1))
  unfold q_bf
  by_cases hk : k = 0
  · subst hk
    rw [if_pos rfl]
    constructor
    · intro h; exact absurd h (q_lm1 (by unfold T_n; omega))
    · intro h; exact absurd (fun z => absurd z (by omega)) h
  · rw [if_neg hk, pk_lLE (by unfold T_n; omega) (by unfold T_n; omega)]
    constructor
    · intro h z; have := z (by omega); omega
    · intro h
      rcases Nat.lt_or_ge (T_n F sz (k - 1)) (T_n F sz k) with q | q
      · exact absurd (fun _ => q) h
      · exact q
set_option maxRecDepth 100000 in
set_option maxHeartbeats 4000000 in
theorem z_Fo_isFile {G : q_G} {l : Launch} {d o row m n sz : Nat} {em gl wd lp : Int32} {g : Nat → Int32} {F : Nat → Nat} {h : q_H} {Q : q_P} (hO : h o = some (e_Fo o em gl wd lp)) (hW : q_Ta h (o + 3) (o + 1) 0 sz) (hB : q_By h (o + 1) row m g sz F) (hN : NT F sz ≤ 64) (q1 : (∀ k, k < NT F sz → T_ok F sz k) → Q (some (.int 1)) h n) (q0 : ¬ (∀ k, k < NT F sz → T_ok F sz k) → Q (some (.int 0)) h n) :
    ∀ (r k : Nat), k + r = NT F sz → (∀ j, j < k → T_ok F sz j) → q_Z G l M_Fo_isFile (d + 3) 0 0 Q 58 [some (.ref o), some (.int (nI (NT F sz))), some (.long (q_bf F sz k)), none, some (.int (nI k)), none, none, none] [] h n 0 0 := by
  have hF := hB.2.2.2.2.2.2
  have hs : sz ≤ 16384 := Nat.le_trans hB.2.2.1 hB.2.2.2.1
  have hO' := hO
  unfold e_Fo at hO'
  have hW' : h (o + 3) = some (.inr (6, [.ref (o + 1), .int (nI 0), .int (nI sz)])) := hW
  intro r
  induction r with
  | zero =>
    intro k hk hall
    refine q_at o_Fo_isFile [58] 20 l_Fo_isFile_58 ?_
    simp -implicitDefEqProofs only [s_go, s_nil, s_cons, q_ins, s_op, s_i, s_j, s_a, s_v, s_li, s_lj, s_la, s_liO, s_ljO, s_laO, q_get, q_p1, q_p2, s_n2i, s_n2r, s_n2l, s_n2n, q_pad, q_ar, s_ob, s_obO, q_nth, s_ri, s_riO, s_rb, s_rbO, s_rzO, s_rl, s_rlO, s_rq, s_rqO, s_ry, s_ryO, s_dn, s_tl, s_tn, s_ap, s_an, s_ci, s_cr, s_ni, s_n0, s_n1, q_ags, q_cat, List.contains_nil, List.contains_cons, Nat.reduceBEq, Bool.or_false, Bool.false_or, Bool.true_or, Bool.false_eq_true, ↓reduceIte, Nat.le_refl, Nat.zero_le, true_and, and_true, Nat.reduceLeDiff, Nat.reduceAdd, Nat.add_zero, Nat.zero_add, List.length_cons, List.length_nil, List.set_cons_zero, List.set_cons_succ, Nat.reduceLT, s_fi, s_fl, s_fo, s_fa, s_f0, s_f1, s_set, s_ss, lg_cmp_ge, lg_cmp_le, lg_cmp_gt, lg_cmp_lt, lg_cmp_eq, s_brT, s_brF, s_10, w_Fo_isFile, r_Fo_isFile, l_Fo_isFile_0, l_Fo_isFile_49, l_Fo_isFile_51, l_Fo_isFile_58, l_Fo_isFile_126, l_Fo_isFile_128, l_Fo_isFile_137, ml_3_94, w_Fo_tables, f_3_23, kc_0, ml_3_98, w_Ta_u32, kl_3_102, kc_1, kb_64, kl_3_104, kb_16, ml_3_106, w_Ta_holds, kl_3_110, kb_12, kb_8, hO', hW']
    refine ⟨fun _ => q1 (by rw [← hk]; exact hall), fun c => absurd (nI_le (by omega) (by omega)) c⟩
  | succ r ih =>
    intro k hk hall
    refine q_at o_Fo_isFile [58] 20 l_Fo_isFile_58 ?_
    simp -implicitDefEqProofs only [s_go, s_nil, s_cons, q_ins, s_op, s_i, s_j, s_a, s_v, s_li, s_lj, s_la, s_liO, s_ljO, s_laO, q_get, q_p1, q_p2, s_n2i, s_n2r, s_n2l, s_n2n, q_pad, q_ar, s_ob, s_obO, q_nth, s_ri, s_riO, s_rb, s_rbO, s_rzO, s_rl, s_rlO, s_rq, s_rqO, s_ry, s_ryO, s_dn, s_tl, s_tn, s_ap, s_an, s_ci, s_cr, s_ni, s_n0, s_n1, q_ags, q_cat, List.contains_nil, List.contains_cons, Nat.reduceBEq, Bool.or_false, Bool.false_or, Bool.true_or, Bool.false_eq_true, ↓reduceIte, Nat.le_refl, Nat.zero_le, true_and, and_true, Nat.reduceLeDiff, Nat.reduceAdd, Nat.add_zero, Nat.zero_add, List.length_cons, List.length_nil, List.set_cons_zero, List.set_cons_succ, Nat.reduceLT, s_fi, s_fl, s_fo, s_fa, s_f0, s_f1, s_set, s_ss, lg_cmp_ge, lg_cmp_le, lg_cmp_gt, lg_cmp_lt, lg_cmp_eq, s_brT, s_brF, s_10, w_Fo_isFile, r_Fo_isFile, l_Fo_isFile_0, l_Fo_isFile_49, l_Fo_isFile_51, l_Fo_isFile_58, l_Fo_isFile_126, l_Fo_isFile_128, l_Fo_isFile_137, ml_3_94, w_Fo_tables, f_3_23, kc_0, ml_3_98, w_Ta_u32, kl_3_102, kc_1, kb_64, kl_3_104, kb_16, ml_3_106, w_Ta_holds, kl_3_110, kb_12, kb_8, hO', hW']
    refine ⟨fun c => absurd ((nI_leI (by omega) (by omega)).mp c) (by omega), fun _ => ?_⟩
    rw [show (16 : Int32) * nI k = nI (16 * k) from pk_mul 16 k, show (12 : Int32) + nI (16 * k) = nI (12 + 16 * k) from nI_add 12 _]
    refine q_c0 (Nat.le_refl _) (Nat.le_refl _) ?_
    refine c_Ta_u32 hW hB (by omega) (by omega) ?_
    simp -implicitDefEqProofs only [s_go, s_nil, s_cons, q_ins, s_op, s_i, s_j, s_a, s_v, s_li, s_lj, s_la, s_liO, s_ljO, s_laO, q_get, q_p1, q_p2, s_n2i, s_n2r, s_n2l, s_n2n, q_pad, q_ar, s_ob, s_obO, q_nth, s_ri, s_riO, s_rb, s_rbO, s_rzO, s_rl, s_rlO, s_rq, s_rqO, s_ry, s_ryO, s_dn, s_tl, s_tn, s_ap, s_an, s_ci, s_cr, s_ni, s_n0, s_n1, q_ags, q_cat, List.contains_nil, List.contains_cons, Nat.reduceBEq, Bool.or_false, Bool.false_or, Bool.true_or, Bool.false_eq_true, ↓reduceIte, Nat.le_refl, Nat.zero_le, true_and, and_true, Nat.reduceLeDiff, Nat.reduceAdd, Nat.add_zero, Nat.zero_add, List.length_cons, List.length_nil, List.set_cons_zero, List.set_cons_succ, Nat.reduceLT, s_fi, s_fl, s_fo, s_fa, s_f0, s_f1, s_set, s_ss, lg_cmp_ge, lg_cmp_le, lg_cmp_gt, lg_cmp_lt, lg_cmp_eq, s_brT, s_brF, s_10, w_Fo_isFile, r_Fo_isFile, l_Fo_isFile_0, l_Fo_isFile_49, l_Fo_isFile_51, l_Fo_isFile_58, l_Fo_isFile_126, l_Fo_isFile_128, l_Fo_isFile_137, ml_3_94, w_Fo_tables, f_3_23, kc_0, ml_3_98, w_Ta_u32, kl_3_102, kc_1, kb_64, kl_3_104, kb_16, ml_3_106, w_Ta_holds, kl_3_110, kb_12, kb_8, hO', hW']
    rw [show lN (U32 F 0 sz (12 + 16 * k)) = lN (T_n F sz k) from rfl, q_bf_le hF]
    refine ⟨fun c => q0 (fun z => c (z k (by omega)).1), fun c => ?_⟩
    have c := Classical.not_not.mp c
    rw [show nI (12 + 16 * k) + 8 = nI (12 + 16 * k + 8) from nI_add _ 8]
    refine q_c0 (Nat.le_refl _) (Nat.le_refl _) ?_
    refine c_Ta_u32 hW hB (by omega) (by omega) ?_
    simp -implicitDefEqProofs only [s_go, s_nil, s_cons, q_ins, s_op, s_i, s_j, s_a, s_v, s_li, s_lj, s_la, s_liO, s_ljO, s_laO, q_get, q_p1, q_p2, s_n2i, s_n2r, s_n2l, s_n2n, q_pad, q_ar, s_ob, s_obO, q_nth, s_ri, s_riO, s_rb, s_rbO, s_rzO, s_rl, s_rlO, s_rq, s_rqO, s_ry, s_ryO, s_dn, s_tl, s_tn, s_ap, s_an, s_ci, s_cr, s_ni, s_n0, s_n1, q_ags, q_cat, List.contains_nil, List.contains_cons, Nat.reduceBEq, Bool.or_false, Bool.false_or, Bool.true_or, Bool.false_eq_true, ↓reduceIte, Nat.le_refl, Nat.zero_le, true_and, and_true, Nat.reduceLeDiff, Nat.reduceAdd, Nat.add_zero, Nat.zero_add, List.length_cons, List.length_nil, List.set_cons_zero, List.set_cons_succ, Nat.reduceLT, s_fi, s_fl, s_fo, s_fa, s_f0, s_f1, s_set, s_ss, lg_cmp_ge, lg_cmp_le, lg_cmp_gt, lg_cmp_lt, lg_cmp_eq, s_brT, s_brF, s_10, w_Fo_isFile, r_Fo_isFile, l_Fo_isFile_0, l_Fo_isFile_49, l_Fo_isFile_51, l_Fo_isFile_58, l_Fo_isFile_126, l_Fo_isFile_128, l_Fo_isFile_137, ml_3_94, w_Fo_tables, f_3_23, kc_0, ml_3_98, w_Ta_u32, kl_3_102, kc_1, kb_64, kl_3_104, kb_16, ml_3_106, w_Ta_holds, kl_3_110, kb_12, kb_8, hO', hW']
    rw [show nI (12 + 16 * k) + 12 = nI (12 + 16 * k + 12) from nI_add _ 12]
    refine q_c0 (Nat.le_refl _) (Nat.le_refl _) ?_
    refine c_Ta_u32 hW hB (by omega) (by omega) ?_
    have b1 := U32_lt hF 0 sz (12 + 16 * k + 8)
    have b2 := U32_lt hF 0 sz (12 + 16 * k + 12)
    simp -implicitDefEqProofs only [s_go, s_nil, s_cons, q_ins, s_op, s_i, s_j, s_a, s_v, s_li, s_lj, s_la, s_liO, s_ljO, s_laO, q_get, q_p1, q_p2, s_n2i, s_n2r, s_n2l, s_n2n, q_pad, q_ar, s_ob, s_obO, q_nth, s_ri, s_riO, s_rb, s_rbO, s_rzO, s_rl, s_rlO, s_rq, s_rqO, s_ry, s_ryO, s_dn, s_tl, s_tn, s_ap, s_an, s_ci, s_cr, s_ni, s_n0, s_n1, q_ags, q_cat, List.contains_nil, List.contains_cons, Nat.reduceBEq, Bool.or_false, Bool.false_or, Bool.true_or, Bool.false_eq_true, ↓reduceIte, Nat.le_refl, Nat.zero_le, true_and, and_true, Nat.reduceLeDiff, Nat.reduceAdd, Nat.add_zero, Nat.zero_add, List.length_cons, List.length_nil, List.set_cons_zero, List.set_cons_succ, Nat.reduceLT, s_fi, s_fl, s_fo, s_fa, s_f0, s_f1, s_set, s_ss, lg_cmp_ge, lg_cmp_le, lg_cmp_gt, lg_cmp_lt, lg_cmp_eq, s_brT, s_brF, s_10, w_Fo_isFile, r_Fo_isFile, l_Fo_isFile_0, l_Fo_isFile_49, l_Fo_isFile_51, l_Fo_isFile_58, l_Fo_isFile_126, l_Fo_isFile_128, l_Fo_isFile_137, ml_3_94, w_Fo_tables, f_3_23, kc_0, ml_3_98, w_Ta_u32, kl_3_102, kc_1, kb_64, kl_3_104, kb_16, ml_3_106, w_Ta_holds, kl_3_110, kb_12, kb_8, hO', hW']
    refine q_c0 (Nat.le_refl _) (Nat.le_refl _) ?_
    refine c_Ta_holds hW hs (by omega) (by omega) ?_
    simp -implicitDefEqProofs only [s_go, s_nil, s_cons, q_ins, s_op, s_i, s_j, s_a, s_v, s_li, s_lj, s_la, s_liO, s_ljO, s_laO, q_get, q_p1, q_p2, s_n2i, s_n2r, s_n2l, s_n2n, q_pad, q_ar, s_ob, s_obO, q_nth, s_ri, s_riO, s_rb, s_rbO, s_rzO, s_rl, s_rlO, s_rq, s_rqO, s_ry, s_ryO, s_dn, s_tl, s_tn, s_ap, s_an, s_ci, s_cr, s_ni, s_n0, s_n1, q_ags, q_cat, List.contains_nil, List.contains_cons, Nat.reduceBEq, Bool.or_false, Bool.false_or, Bool.true_or, Bool.false_eq_true, ↓reduceIte, Nat.le_refl, Nat.zero_le, true_and, and_true, Nat.reduceLeDiff, Nat.reduceAdd, Nat.add_zero, Nat.zero_add, List.length_cons, List.length_nil, List.set_cons_zero, List.set_cons_succ, Nat.reduceLT, s_fi, s_fl, s_fo, s_fa, s_f0, s_f1, s_set, s_ss, lg_cmp_ge, lg_cmp_le, lg_cmp_gt, lg_cmp_lt, lg_cmp_eq, s_brT, s_brF, s_10, w_Fo_isFile, r_Fo_isFile, l_Fo_isFile_0, l_Fo_isFile_49, l_Fo_isFile_51, l_Fo_isFile_58, l_Fo_isFile_126, l_Fo_isFile_128, l_Fo_isFile_137, ml_3_94, w_Fo_tables, f_3_23, kc_0, ml_3_98, w_Ta_u32, kl_3_102, kc_1, kb_64, kl_3_104, kb_16, ml_3_106, w_Ta_holds, kl_3_110, kb_12, kb_8, hO', hW']
    by_cases hh : U32 F 0 sz (12 + 16 * k + 8) + U32 F 0 sz (12 + 16 * k + 12) ≤ sz
    · rw [q_z_t hh]
      refine ⟨fun z => absurd z (by decide), fun _ => ?_⟩
      refine q_wk (ih (k + 1) (by omega) (fun j hj => ?_)) ?_
      · rcases Nat.lt_or_ge j k with z | z
        · exact hall j z
        · have : j = k := by omega
          subst this
          exact ⟨c, hh⟩
      · refine ⟨rfl, rfl, ?_, ?_, trivial⟩
        · show some (Value.long (lN (T_n F sz k))) = _
          unfold q_bf
          rw [if_neg (by omega)]
          rfl
        · rw [nI_1]
    · rw [q_z_f hh]
      exact ⟨fun _ => q0 (fun z => hh (z k (by omega)).2), fun z => absurd rfl z⟩
theorem lN_c (n : Nat) (x : Int64) (h : x = lN n) : x = lN n := h
set_option maxRecDepth 100000 in
set_option maxHeartbeats 4000000 in
theorem c_Fo_isFile {G : q_G} {l : Launch} {d o row m n sz : Nat} {em gl wd lp : Int32} {g : Nat → Int32} {F : Nat → Nat} {h : q_H} {Q : q_P} (hO : h o = some (e_Fo o em gl wd lp)) (hW : q_Ta h (o + 3) (o + 1) 0 sz) (hB : q_By h (o + 1) row m g sz F) (q1 : FILE_ok F sz → Q (some (.int 1)) h n) (q0 : ¬ FILE_ok F sz → Q (some (.int 0)) h n) : q_Call G l M_Fo_isFile (d + 3) 0 0 [.ref o] h n Q := by
  have hF := hB.2.2.2.2.2.2
  have hs : sz ≤ 16384 := Nat.le_trans hB.2.2.1 hB.2.2.2.1
  have hO' := hO
  unfold e_Fo at hO'
  have hW' : h (o + 3) = some (.inr (6, [.ref (o + 1), .int (nI 0), .int (nI sz)])) := hW
  have bN : NT F sz < 65536 := U16_lt hF 0 sz 4
  have b0 := U32_lt hF 0 sz 0
  refine q_in u_Fo_isFile (by rw [L_Fo_isFile]; exact Nat.le_of_ble_eq_true rfl) ?_
  rw [L_Fo_isFile]
  refine q_at o_Fo_isFile [58] 20 l_Fo_isFile_0 ?_
  simp -implicitDefEqProofs only [s_go, s_nil, s_cons, q_ins, s_op, s_i, s_j, s_a, s_v, s_li, s_lj, s_la, s_liO, s_ljO, s_laO, q_get, q_p1, q_p2, s_n2i, s_n2r, s_n2l, s_n2n, q_pad, q_ar, s_ob, s_obO, q_nth, s_ri, s_riO, s_rb, s_rbO, s_rzO, s_rl, s_rlO, s_rq, s_rqO, s_ry, s_ryO, s_dn, s_tl, s_tn, s_ap, s_an, s_ci, s_cr, s_ni, s_n0, s_n1, q_ags, q_cat, List.contains_nil, List.contains_cons, Nat.reduceBEq, Bool.or_false, Bool.false_or, Bool.true_or, Bool.false_eq_true, ↓reduceIte, Nat.le_refl, Nat.zero_le, true_and, and_true, Nat.reduceLeDiff, Nat.reduceAdd, Nat.add_zero, Nat.zero_add, List.length_cons, List.length_nil, List.set_cons_zero, List.set_cons_succ, Nat.reduceLT, s_fi, s_fl, s_fo, s_fa, s_f0, s_f1, s_set, s_ss, lg_cmp_ge, lg_cmp_le, lg_cmp_gt, lg_cmp_lt, lg_cmp_eq, s_brT, s_brF, s_10, w_Fo_isFile, r_Fo_isFile, l_Fo_isFile_0, l_Fo_isFile_49, l_Fo_isFile_51, l_Fo_isFile_58, l_Fo_isFile_126, l_Fo_isFile_128, l_Fo_isFile_137, ml_3_94, w_Fo_tables, f_3_23, kc_0, ml_3_98, w_Ta_u32, kl_3_102, kc_1, kb_64, kl_3_104, kb_16, ml_3_106, w_Ta_holds, kl_3_110, kb_12, kb_8, hO', hW']
  refine q_c0 (Nat.le_refl _) (Nat.le_refl _) ?_
  refine c_Fo_tables hO hW hB ?_
  simp -implicitDefEqProofs only [s_go, s_nil, s_cons, q_ins, s_op, s_i, s_j, s_a, s_v, s_li, s_lj, s_la, s_liO, s_ljO, s_laO, q_get, q_p1, q_p2, s_n2i, s_n2r, s_n2l, s_n2n, q_pad, q_ar, s_ob, s_obO, q_nth, s_ri, s_riO, s_rb, s_rbO, s_rzO, s_rl, s_rlO, s_rq, s_rqO, s_ry, s_ryO, s_dn, s_tl, s_tn, s_ap, s_an, s_ci, s_cr, s_ni, s_n0, s_n1, q_ags, q_cat, List.contains_nil, List.contains_cons, Nat.reduceBEq, Bool.or_false, Bool.false_or, Bool.true_or, Bool.false_eq_true, ↓reduceIte, Nat.le_refl, Nat.zero_le, true_and, and_true, Nat.reduceLeDiff, Nat.reduceAdd, Nat.add_zero, Nat.zero_add, List.length_cons, List.length_nil, List.set_cons_zero, List.set_cons_succ, Nat.reduceLT, s_fi, s_fl, s_fo, s_fa, s_f0, s_f1, s_set, s_ss, lg_cmp_ge, lg_cmp_le, lg_cmp_gt, lg_cmp_lt, lg_cmp_eq, s_brT, s_brF, s_10, w_Fo_isFile, r_Fo_isFile, l_Fo_isFile_0, l_Fo_isFile_49, l_Fo_isFile_51, l_Fo_isFile_58, l_Fo_isFile_126, l_Fo_isFile_128, l_Fo_isFile_137, ml_3_94, w_Fo_tables, f_3_23, kc_0, ml_3_98, w_Ta_u32, kl_3_102, kc_1, kb_64, kl_3_104, kb_16, ml_3_106, w_Ta_holds, kl_3_110, kb_12, kb_8, hO', hW']
  refine q_c0 (Nat.le_refl _) (Nat.le_refl _) ?_
  refine c_Ta_u32 (j := 0) hW hB (by omega) (by omega) ?_
  simp -implicitDefEqProofs only [s_go, s_nil, s_cons, q_ins, s_op, s_i, s_j, s_a, s_v, s_li, s_lj, s_la, s_liO, s_ljO, s_laO, q_get, q_p1, q_p2, s_n2i, s_n2r, s_n2l, s_n2n, q_pad, q_ar, s_ob, s_obO, q_nth, s_ri, s_riO, s_rb, s_rbO, s_rzO, s_rl, s_rlO, s_rq, s_rqO, s_ry, s_ryO, s_dn, s_tl, s_tn, s_ap, s_an, s_ci, s_cr, s_ni, s_n0, s_n1, q_ags, q_cat, List.contains_nil, List.contains_cons, Nat.reduceBEq, Bool.or_false, Bool.false_or, Bool.true_or, Bool.false_eq_true, ↓reduceIte, Nat.le_refl, Nat.zero_le, true_and, and_true, Nat.reduceLeDiff, Nat.reduceAdd, Nat.add_zero, Nat.zero_add, List.length_cons, List.length_nil, List.set_cons_zero, List.set_cons_succ, Nat.reduceLT, s_fi, s_fl, s_fo, s_fa, s_f0, s_f1, s_set, s_ss, lg_cmp_ge, lg_cmp_le, lg_cmp_gt, lg_cmp_lt, lg_cmp_eq, s_brT, s_brF, s_10, w_Fo_isFile, r_Fo_isFile, l_Fo_isFile_0, l_Fo_isFile_49, l_Fo_isFile_51, l_Fo_isFile_58, l_Fo_isFile_126, l_Fo_isFile_128, l_Fo_isFile_137, ml_3_94, w_Fo_tables, f_3_23, kc_0, ml_3_98, w_Ta_u32, kl_3_102, kc_1, kb_64, kl_3_104, kb_16, ml_3_106, w_Ta_holds, kl_3_110, kb_12, kb_8, hO', hW']
  rw [show (65536 : Int64) = lN 65536 from rfl, pk_lEQ (by omega) (by omega), show (1 : Int32) = nI 1 from rfl, nI_ltI (by omega) (by omega), show (64 : Int32) = nI 64 from rfl, nI_ltI (by omega) (by omega)]
  refine ⟨fun c => ⟨fun c1 => q0 (fun z => absurd z.2.1 (by omega)), fun c1 => ⟨fun c2 => q0 (fun z => absurd z.2.2.1 (by omega)), fun c2 => ?_⟩⟩, fun c => q0 (fun z => c z.1)⟩
  rw [show (16 : Int32) * nI (NT F sz) = nI (16 * NT F sz) from pk_mul 16 _, nI_l (by omega)]
  refine q_c0 (Nat.le_refl _) (Nat.le_refl _) ?_
  refine c_Ta_holds (x := 12) hW hs (by omega) (by omega) ?_
  simp -implicitDefEqProofs only [s_go, s_nil, s_cons, q_ins, s_op, s_i, s_j, s_a, s_v, s_li, s_lj, s_la, s_liO, s_ljO, s_laO, q_get, q_p1, q_p2, s_n2i, s_n2r, s_n2l, s_n2n, q_pad, q_ar, s_ob, s_obO, q_nth, s_ri, s_riO, s_rb, s_rbO, s_rzO, s_rl, s_rlO, s_rq, s_rqO, s_ry, s_ryO, s_dn, s_tl, s_tn, s_ap, s_an, s_ci, s_cr, s_ni, s_n0, s_n1, q_ags, q_cat, List.contains_nil, List.contains_cons, Nat.reduceBEq, Bool.or_false, Bool.false_or, Bool.true_or, Bool.false_eq_true, ↓reduceIte, Nat.le_refl, Nat.zero_le, true_and, and_true, Nat.reduceLeDiff, Nat.reduceAdd, Nat.add_zero, Nat.zero_add, List.length_cons, List.length_nil, List.set_cons_zero, List.set_cons_succ, Nat.reduceLT, s_fi, s_fl, s_fo, s_fa, s_f0, s_f1, s_set, s_ss, lg_cmp_ge, lg_cmp_le, lg_cmp_gt, lg_cmp_lt, lg_cmp_eq, s_brT, s_brF, s_10, w_Fo_isFile, r_Fo_isFile, l_Fo_isFile_0, l_Fo_isFile_49, l_Fo_isFile_51, l_Fo_isFile_58, l_Fo_isFile_126, l_Fo_isFile_128, l_Fo_isFile_137, ml_3_94, w_Fo_tables, f_3_23, kc_0, ml_3_98, w_Ta_u32, kl_3_102, kc_1, kb_64, kl_3_104, kb_16, ml_3_106, w_Ta_holds, kl_3_110, kb_12, kb_8, hO', hW']
  by_cases hh : 12 + 16 * NT F sz ≤ sz
  · rw [q_z_t hh]
    refine ⟨fun z => absurd z (by decide), fun _ => ?_⟩
    exact z_Fo_isFile hO hW hB (by omega) (fun z => q1 ⟨c, by omega, by omega, hh, z⟩) (fun z => q0 (fun y => z y.2.2.2.2)) (NT F sz) 0 (by omega) (fun j hj => absurd hj (by omega))
  · rw [q_z_f hh]
    exact ⟨fun _ => q0 (fun z => hh z.2.2.2.1), fun z => absurd rfl z⟩
/-- the sum of a table's U32s, step by step -/
def SUMk (F : Nat → Nat) (st ln : Nat) : Nat → Nat
  | 0 => 0
  | k + 1 => SUMk F st ln k + U32 F st ln (4 * k)
theorem SUMk_lt {F : Nat → Nat} (hF : ∀ j, F j < 256) (st ln : Nat) : ∀ k, SUMk F st ln k ≤ k * 4294967296
  | 0 => by simp [SUMk]
  | k + 1 => by
    have := SUMk_lt hF st ln k
    have := U32_lt hF st ln (4 * k)
    simp only [SUMk]
    omega
theorem lN_mask {a : Nat} (h : a < 2 ^ 63) : lN a &&& 4294967295 = lN (a % 4294967296) := by
  apply Int64.toBitVec_inj.mp
  show BitVec.ofNat 64 a &&& BitVec.ofNat 64 4294967295 = BitVec.ofNat 64 (a % 4294967296)
  rw [← BitVec.ofNat_and, show (4294967295 : Nat) = 2 ^ 32 - 1 from rfl, Nat.and_two_pow_sub_one_eq_mod]
set_option maxRecDepth 100000 in
set_option maxHeartbeats 4000000 in
theorem z_Fo_sum {G : q_G} {l : Launch} {d o a f row m n sz st ln : Nat} {g : Nat → Int32} {F : Nat → Nat} {h : q_H} {Q : q_P} (hT : q_Ta h a f st ln) (hB : q_By h f row m g sz F) (hin : st + ln ≤ sz) (hq : Q (some (.long (lN (SUMk F st ln ((ln + 3) / 4) % 4294967296)))) h n) :
    ∀ (r k : Nat), k + r = (ln + 3) / 4 → q_Z G l M_Fo_sum (d + 2) 0 0 Q 5 [some (.ref o), some (.ref a), some (.long (lN (SUMk F st ln k))), none, some (.int (nI (4 * k)))] [] h n 0 0 := by
  have hF := hB.2.2.2.2.2.2
  have hs : sz ≤ 16384 := Nat.le_trans hB.2.2.1 hB.2.2.2.1
  have hT' : h a = some (.inr (6, [.ref f, .int (nI st), .int (nI ln)])) := hT
  intro r
  induction r with
  | zero =>
    intro k hk
    have b1 := SUMk_lt hF st ln k
    refine q_at o_Fo_sum [5] 20 l_Fo_sum_5 ?_
    simp -implicitDefEqProofs only [s_go, s_nil, s_cons, q_ins, s_op, s_i, s_j, s_a, s_v, s_li, s_lj, s_la, s_liO, s_ljO, s_laO, q_get, q_p1, q_p2, s_n2i, s_n2r, s_n2l, s_n2n, q_pad, q_ar, s_ob, s_obO, q_nth, s_ri, s_riO, s_rb, s_rbO, s_rzO, s_rl, s_rlO, s_rq, s_rqO, s_ry, s_ryO, s_dn, s_tl, s_tn, s_ap, s_an, s_ci, s_cr, s_ni, s_n0, s_n1, q_ags, q_cat, List.contains_nil, List.contains_cons, Nat.reduceBEq, Bool.or_false, Bool.false_or, Bool.true_or, Bool.false_eq_true, ↓reduceIte, Nat.le_refl, Nat.zero_le, true_and, and_true, Nat.reduceLeDiff, Nat.reduceAdd, Nat.add_zero, Nat.zero_add, List.length_cons, List.length_nil, List.set_cons_zero, List.set_cons_succ, Nat.reduceLT, s_fi, s_fl, s_fo, s_fa, s_f0, s_f1, s_set, s_ss, lg_cmp_ge, lg_cmp_le, lg_cmp_gt, lg_cmp_lt, lg_cmp_eq, s_brT, s_brF, s_10, w_Fo_sum, r_Fo_sum, l_Fo_sum_0, l_Fo_sum_5, l_Fo_sum_29, kj_0, kc_0, f_3_120, ml_3_98, w_Ta_u32, kc_4, kl_3_123, hT']
    refine ⟨fun _ => ?_, fun c => absurd (nI_le (by omega) (by omega)) c⟩
    rw [lN_mask (by omega)]
    rw [Nat.add_zero] at hk
    rw [hk]
    exact hq
  | succ r ih =>
    intro k hk
    refine q_at o_Fo_sum [5] 20 l_Fo_sum_5 ?_
    simp -implicitDefEqProofs only [s_go, s_nil, s_cons, q_ins, s_op, s_i, s_j, s_a, s_v, s_li, s_lj, s_la, s_liO, s_ljO, s_laO, q_get, q_p1, q_p2, s_n2i, s_n2r, s_n2l, s_n2n, q_pad, q_ar, s_ob, s_obO, q_nth, s_ri, s_riO, s_rb, s_rbO, s_rzO, s_rl, s_rlO, s_rq, s_rqO, s_ry, s_ryO, s_dn, s_tl, s_tn, s_ap, s_an, s_ci, s_cr, s_ni, s_n0, s_n1, q_ags, q_cat, List.contains_nil, List.contains_cons, Nat.reduceBEq, Bool.or_false, Bool.false_or, Bool.true_or, Bool.false_eq_true, ↓reduceIte, Nat.le_refl, Nat.zero_le, true_and, and_true, Nat.reduceLeDiff, Nat.reduceAdd, Nat.add_zero, Nat.zero_add, List.length_cons, List.length_nil, List.set_cons_zero, List.set_cons_succ, Nat.reduceLT, s_fi, s_fl, s_fo, s_fa, s_f0, s_f1, s_set, s_ss, lg_cmp_ge, lg_cmp_le, lg_cmp_gt, lg_cmp_lt, lg_cmp_eq, s_brT, s_brF, s_10, w_Fo_sum, r_Fo_sum, l_Fo_sum_0, l_Fo_sum_5, l_Fo_sum_29, kj_0, kc_0, f_3_120, ml_3_98, w_Ta_u32, kc_4, kl_3_123, hT']
    refine ⟨fun c => absurd ((nI_leI (by omega) (by omega)).mp c) (by omega), fun _ => ?_⟩
    refine q_c0 (Nat.le_refl _) (Nat.le_refl _) ?_
    refine c_Ta_u32 hT hB hin (by omega) ?_
    simp -implicitDefEqProofs only [s_go, s_nil, s_cons, q_ins, s_op, s_i, s_j, s_a, s_v, s_li, s_lj, s_la, s_liO, s_ljO, s_laO, q_get, q_p1, q_p2, s_n2i, s_n2r, s_n2l, s_n2n, q_pad, q_ar, s_ob, s_obO, q_nth, s_ri, s_riO, s_rb, s_rbO, s_rzO, s_rl, s_rlO, s_rq, s_rqO, s_ry, s_ryO, s_dn, s_tl, s_tn, s_ap, s_an, s_ci, s_cr, s_ni, s_n0, s_n1, q_ags, q_cat, List.contains_nil, List.contains_cons, Nat.reduceBEq, Bool.or_false, Bool.false_or, Bool.true_or, Bool.false_eq_true, ↓reduceIte, Nat.le_refl, Nat.zero_le, true_and, and_true, Nat.reduceLeDiff, Nat.reduceAdd, Nat.add_zero, Nat.zero_add, List.length_cons, List.length_nil, List.set_cons_zero, List.set_cons_succ, Nat.reduceLT, s_fi, s_fl, s_fo, s_fa, s_f0, s_f1, s_set, s_ss, lg_cmp_ge, lg_cmp_le, lg_cmp_gt, lg_cmp_lt, lg_cmp_eq, s_brT, s_brF, s_10, w_Fo_sum, r_Fo_sum, l_Fo_sum_0, l_Fo_sum_5, l_Fo_sum_29, kj_0, kc_0, f_3_120, ml_3_98, w_Ta_u32, kc_4, kl_3_123, hT', lN_add]
    rw [show nI (4 * k) + 4 = nI (4 * (k + 1)) from nI_add _ 4]
    exact ih (k + 1) (by omega)
set_option maxRecDepth 100000 in
set_option maxHeartbeats 4000000 in
theorem c_Fo_sum {G : q_G} {l : Launch} {d o a f row m n sz st ln : Nat} {g : Nat → Int32} {F : Nat → Nat} {h : q_H} {Q : q_P} (hT : q_Ta h a f st ln) (hB : q_By h f row m g sz F) (hin : st + ln ≤ sz) (hq : Q (some (.long (lN (SUMk F st ln ((ln + 3) / 4) % 4294967296)))) h n) : q_Call G l M_Fo_sum (d + 2) 0 0 [.ref o, .ref a] h n Q := by
  refine q_in u_Fo_sum (by rw [L_Fo_sum]; exact Nat.le_of_ble_eq_true rfl) ?_
  rw [L_Fo_sum]
  refine q_at o_Fo_sum [5] 20 l_Fo_sum_0 ?_
  simp -implicitDefEqProofs only [s_go, s_nil, s_cons, q_ins, s_op, s_i, s_j, s_a, s_v, s_li, s_lj, s_la, s_liO, s_ljO, s_laO, q_get, q_p1, q_p2, s_n2i, s_n2r, s_n2l, s_n2n, q_pad, q_ar, s_ob, s_obO, q_nth, s_ri, s_riO, s_rb, s_rbO, s_rzO, s_rl, s_rlO, s_rq, s_rqO, s_ry, s_ryO, s_dn, s_tl, s_tn, s_ap, s_an, s_ci, s_cr, s_ni, s_n0, s_n1, q_ags, q_cat, List.contains_nil, List.contains_cons, Nat.reduceBEq, Bool.or_false, Bool.false_or, Bool.true_or, Bool.false_eq_true, ↓reduceIte, Nat.le_refl, Nat.zero_le, true_and, and_true, Nat.reduceLeDiff, Nat.reduceAdd, Nat.add_zero, Nat.zero_add, List.length_cons, List.length_nil, List.set_cons_zero, List.set_cons_succ, Nat.reduceLT, s_fi, s_fl, s_fo, s_fa, s_f0, s_f1, s_set, s_ss, lg_cmp_ge, lg_cmp_le, lg_cmp_gt, lg_cmp_lt, lg_cmp_eq, s_brT, s_brF, s_10, w_Fo_sum, r_Fo_sum, l_Fo_sum_0, l_Fo_sum_5, l_Fo_sum_29, kj_0, kc_0, f_3_120, ml_3_98, w_Ta_u32, kc_4, kl_3_123]
  exact z_Fo_sum hT hB hin hq ((ln + 3) / 4) 0 (by omega)
set_option maxRecDepth 100000 in
set_option maxHeartbeats 4000000 in
theorem c_Fo_layByEntry {G : q_G} {l : Launch} {d o a row m n sz k st ln : Nat} {em gl wd lp : Int32} {g : Nat → Int32} {F : Nat → Nat} {h : q_H} {Q : q_P} (hO : h o = some (e_Fo o em gl wd lp)) (hW : q_Ta h (o + 3) (o + 1) 0 sz) (hB : q_By h (o + 1) row m g sz F) (hT : q_Ta h a (o + 1) st ln) (hk : k < 64)
    (hq : Q none (q_set h a (.inr (6, [.ref (o + 1), .int (nI (T_p F sz k)), .int (nI (T_l F sz k))]))) n) : q_Call G l M_Fo_layByEntry (d + 2) 0 0 [.ref o, .ref a, .int (nI (12 + 16 * k))] h n Q := by
  have hF := hB.2.2.2.2.2.2
  have hO' := hO
  unfold e_Fo at hO'
  have hW' : h (o + 3) = some (.inr (6, [.ref (o + 1), .int (nI 0), .int (nI sz)])) := hW
  have hT' : h a = some (.inr (6, [.ref (o + 1), .int (nI st), .int (nI ln)])) := hT
  refine q_in u_Fo_layByEntry (by rw [L_Fo_layByEntry]; exact Nat.le_of_ble_eq_true rfl) ?_
  rw [L_Fo_layByEntry]
  refine q_at o_Fo_layByEntry [] 20 l_Fo_layByEntry_0 ?_
  simp -implicitDefEqProofs only [s_go, s_nil, s_cons, q_ins, s_op, s_i, s_j, s_a, s_v, s_li, s_lj, s_la, s_liO, s_ljO, s_laO, q_get, q_p1, q_p2, s_n2i, s_n2r, s_n2l, s_n2n, q_pad, q_ar, s_ob, s_obO, q_nth, s_ri, s_riO, s_rb, s_rbO, s_rzO, s_rl, s_rlO, s_rq, s_rqO, s_ry, s_ryO, s_dn, s_tl, s_tn, s_ap, s_an, s_ci, s_cr, s_ni, s_n0, s_n1, q_ags, q_cat, List.contains_nil, List.contains_cons, Nat.reduceBEq, Bool.or_false, Bool.false_or, Bool.true_or, Bool.false_eq_true, ↓reduceIte, Nat.le_refl, Nat.zero_le, true_and, and_true, Nat.reduceLeDiff, Nat.reduceAdd, Nat.add_zero, Nat.zero_add, List.length_cons, List.length_nil, List.set_cons_zero, List.set_cons_succ, Nat.reduceLT, s_fi, s_fl, s_fo, s_fa, s_f0, s_f1, s_set, s_ss, lg_cmp_ge, lg_cmp_le, lg_cmp_gt, lg_cmp_lt, lg_cmp_eq, s_brT, s_brF, s_10, w_Fo_layByEntry, r_Fo_layByEntry, l_Fo_layByEntry_0, f_3_23, kb_8, ml_3_98, w_Ta_u32, kb_12, ml_3_67, w_Ta_lay, hO', hW', hT']
  rw [show nI (12 + 16 * k) + 8 = nI (12 + 16 * k + 8) from nI_add _ 8]
  refine q_c0 (Nat.le_refl _) (Nat.le_refl _) ?_
  refine c_Ta_u32 hW hB (by omega) (by omega) ?_
  simp -implicitDefEqProofs only [s_go, s_nil, s_cons, q_ins, s_op, s_i, s_j, s_a, s_v, s_li, s_lj, s_la, s_liO, s_ljO, s_laO, q_get, q_p1, q_p2, s_n2i, s_n2r, s_n2l, s_n2n, q_pad, q_ar, s_ob, s_obO, q_nth, s_ri, s_riO, s_rb, s_rbO, s_rzO, s_rl, s_rlO, s_rq, s_rqO, s_ry, s_ryO, s_dn, s_tl, s_tn, s_ap, s_an, s_ci, s_cr, s_ni, s_n0, s_n1, q_ags, q_cat, List.contains_nil, List.contains_cons, Nat.reduceBEq, Bool.or_false, Bool.false_or, Bool.true_or, Bool.false_eq_true, ↓reduceIte, Nat.le_refl, Nat.zero_le, true_and, and_true, Nat.reduceLeDiff, Nat.reduceAdd, Nat.add_zero, Nat.zero_add, List.length_cons, List.length_nil, List.set_cons_zero, List.set_cons_succ, Nat.reduceLT, s_fi, s_fl, s_fo, s_fa, s_f0, s_f1, s_set, s_ss, lg_cmp_ge, lg_cmp_le, lg_cmp_gt, lg_cmp_lt, lg_cmp_eq, s_brT, s_brF, s_10, w_Fo_layByEntry, r_Fo_layByEntry, l_Fo_layByEntry_0, f_3_23, kb_8, ml_3_98, w_Ta_u32, kb_12, ml_3_67, w_Ta_lay, hO', hW', hT']
  rw [show nI (12 + 16 * k) + 12 = nI (12 + 16 * k + 12) from nI_add _ 12]
  refine q_c0 (Nat.le_refl _) (Nat.le_refl _) ?_
  refine c_Ta_u32 hW hB (by omega) (by omega) ?_
  simp -implicitDefEqProofs only [s_go, s_nil, s_cons, q_ins, s_op, s_i, s_j, s_a, s_v, s_li, s_lj, s_la, s_liO, s_ljO, s_laO, q_get, q_p1, q_p2, s_n2i, s_n2r, s_n2l, s_n2n, q_pad, q_ar, s_ob, s_obO, q_nth, s_ri, s_riO, s_rb, s_rbO, s_rzO, s_rl, s_rlO, s_rq, s_rqO, s_ry, s_ryO, s_dn, s_tl, s_tn, s_ap, s_an, s_ci, s_cr, s_ni, s_n0, s_n1, q_ags, q_cat, List.contains_nil, List.contains_cons, Nat.reduceBEq, Bool.or_false, Bool.false_or, Bool.true_or, Bool.false_eq_true, ↓reduceIte, Nat.le_refl, Nat.zero_le, true_and, and_true, Nat.reduceLeDiff, Nat.reduceAdd, Nat.add_zero, Nat.zero_add, List.length_cons, List.length_nil, List.set_cons_zero, List.set_cons_succ, Nat.reduceLT, s_fi, s_fl, s_fo, s_fa, s_f0, s_f1, s_set, s_ss, lg_cmp_ge, lg_cmp_le, lg_cmp_gt, lg_cmp_lt, lg_cmp_eq, s_brT, s_brF, s_10, w_Fo_layByEntry, r_Fo_layByEntry, l_Fo_layByEntry_0, f_3_23, kb_8, ml_3_98, w_Ta_u32, kb_12, ml_3_67, w_Ta_lay, hO', hW', hT', lN_i]
  refine q_c0 (Nat.le_refl _) (Nat.le_refl _) ?_
  refine c_Ta_lay hT ?_
  simp -implicitDefEqProofs only [s_go, s_nil, s_cons, q_ins, s_op, s_i, s_j, s_a, s_v, s_li, s_lj, s_la, s_liO, s_ljO, s_laO, q_get, q_p1, q_p2, s_n2i, s_n2r, s_n2l, s_n2n, q_pad, q_ar, s_ob, s_obO, q_nth, s_ri, s_riO, s_rb, s_rbO, s_rzO, s_rl, s_rlO, s_rq, s_rqO, s_ry, s_ryO, s_dn, s_tl, s_tn, s_ap, s_an, s_ci, s_cr, s_ni, s_n0, s_n1, q_ags, q_cat, List.contains_nil, List.contains_cons, Nat.reduceBEq, Bool.or_false, Bool.false_or, Bool.true_or, Bool.false_eq_true, ↓reduceIte, Nat.le_refl, Nat.zero_le, true_and, and_true, Nat.reduceLeDiff, Nat.reduceAdd, Nat.add_zero, Nat.zero_add, List.length_cons, List.length_nil, List.set_cons_zero, List.set_cons_succ, Nat.reduceLT, s_fi, s_fl, s_fo, s_fa, s_f0, s_f1, s_set, s_ss, lg_cmp_ge, lg_cmp_le, lg_cmp_gt, lg_cmp_lt, lg_cmp_eq, s_brT, s_brF, s_10, w_Fo_layByEntry, r_Fo_layByEntry, l_Fo_layByEntry_0, f_3_23, kb_8, ml_3_98, w_Ta_u32, kb_12, ml_3_67, w_Ta_lay]
  exact hq
