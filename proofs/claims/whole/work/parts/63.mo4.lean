/-! the reference: sumOf, checkSums -/
def BS (F : Nat → Nat) (st ln : Nat) : Nat → Nat
  | 0 => 0
  | i + 1 => BS F st ln i + U8 F st ln i * 2 ^ (24 - 8 * (i % 4))
theorem BS_s (F : Nat → Nat) (st ln i : Nat) : BS F st ln (i + 1) = BS F st ln i + U8 F st ln i * 2 ^ (24 - 8 * (i % 4)) := rfl
theorem SUMk_s (F : Nat → Nat) (st ln k : Nat) : SUMk F st ln (k + 1) = SUMk F st ln k + U32 F st ln (4 * k) := rfl
theorem BS_4 (F : Nat → Nat) (st ln : Nat) : ∀ k, BS F st ln (4 * k) = SUMk F st ln k
  | 0 => rfl
  | k + 1 => by
    have ih := BS_4 F st ln k
    rw [show 4 * (k + 1) = 4 * k + 1 + 1 + 1 + 1 by omega]
    rw [BS_s, BS_s, BS_s, BS_s, ih, show 4 * k % 4 = 0 by omega, show (4 * k + 1) % 4 = 1 by omega, show (4 * k + 1 + 1) % 4 = 2 by omega, show (4 * k + 1 + 1 + 1) % 4 = 3 by omega]
    rw [SUMk_s]
    unfold U32 U16
    rw [show 4 * k + 1 + 1 = 4 * k + 2 from rfl, show 4 * k + 2 + 1 = 4 * k + 3 from rfl]
    omega
theorem BS_out (F : Nat → Nat) (st ln : Nat) : ∀ r, BS F st ln (ln + r) = BS F st ln ln
  | 0 => rfl
  | r + 1 => by
    have ih := BS_out F st ln r
    rw [show ln + (r + 1) = ln + r + 1 from rfl]
    rw [BS_s, ih, U8_out (by omega)]
    omega
theorem BS_sum (F : Nat → Nat) (st ln : Nat) : BS F st ln ln = SUMk F st ln ((ln + 3) / 4) := by
  rw [← BS_4, ← BS_out F st ln (4 * ((ln + 3) / 4) - ln), show ln + (4 * ((ln + 3) / 4) - ln) = 4 * ((ln + 3) / 4) by omega]
theorem BS_lt {F : Nat → Nat} (hb : ∀ j, F j < 256) (st ln : Nat) : ∀ i, BS F st ln i ≤ i * 4294967296
  | 0 => by unfold BS; omega
  | i + 1 => by
    have ih := BS_lt hb st ln i
    have b := U8_lt hb st ln i
    rw [BS_s]
    have : 2 ^ (24 - 8 * (i % 4)) ≤ 2 ^ 24 := Nat.pow_le_pow_right (by omega) (by omega)
    have : U8 F st ln i * 2 ^ (24 - 8 * (i % 4)) ≤ 255 * 2 ^ 24 := Nat.mul_le_mul (by omega) this
    omega
theorem sh_ok : ∀ b, b < 256 → ∀ r, r < 4 → lN b <<< ((nI (24 - 8 * r)).toInt64 &&& 63) = lN (b * 2 ^ (24 - 8 * r)) := by decide +kernel
set_option maxRecDepth 100000 in
set_option maxHeartbeats 4000000 in
theorem z_Mo_sumOf {G : q_G} {l : Launch} {d y n sz st ln : Nat} {fa si fo wi of_ bd pr le : Int32} {F : Nat → Nat} {g : Nat → Int32} {h : q_H} {Q : q_P} (hg : h (y + 1) = some (.inl (0, 16384, .inl g))) (hv : ∀ j, j < sz → g j = nI (F j)) (hb : ∀ j, F j < 256) (hs : sz ≤ 16384) (hin : st + ln ≤ sz) (hq : Q (some (.long (lN (SUMk F st ln ((ln + 3) / 4) % 4294967296)))) (Mh h y fa si fo wi of_ bd pr le) n) :
    ∀ (r i : Nat), i + r = ln → q_Z G l M_Mo_sumOf d 0 0 Q 6 [some (.ref y), some (.long (lN st)), none, some (.long (lN ln)), none, some (.long (lN (BS F st ln i))), none, some (.long (lN i)), none, none, none] [] (Mh h y fa si fo wi of_ bd pr le) n 0 0 := by
  intro r
  induction r with
  | zero =>
    intro i hi
    have e : i = ln := by omega
    subst e
    have bb := BS_lt hb st i i
    refine q_at o_Mo_sumOf [6] 20 l_Mo_sumOf_6 ?_
    simp -implicitDefEqProofs only [s_go, s_nil, s_cons, q_ins, s_op, s_i, s_j, s_a, s_v, s_li, s_lj, s_la, s_liO, s_ljO, s_laO, q_get, q_p1, q_p2, s_n2i, s_n2r, s_n2l, s_n2n, q_pad, q_ar, s_ob, s_obO, q_nth, s_ri, s_riO, s_rb, s_rbO, s_rzO, s_rl, s_rlO, s_rq, s_rqO, s_ry, s_ryO, s_dn, s_tl, s_tn, s_ap, s_an, s_ci, s_cr, s_ni, s_n0, s_n1, q_ags, q_cat, List.contains_nil, List.contains_cons, Nat.reduceBEq, Bool.or_false, Bool.false_or, Bool.true_or, Bool.false_eq_true, ↓reduceIte, Nat.le_refl, Nat.zero_le, true_and, and_true, Nat.reduceLeDiff, Nat.reduceAdd, Nat.add_zero, Nat.zero_add, List.length_cons, List.length_nil, List.set_cons_zero, List.set_cons_succ, Nat.reduceLT, s_fi, s_fl, s_fo, s_fa, s_f0, s_f1, s_set, s_ss, lg_cmp_ge, lg_cmp_le, lg_cmp_gt, lg_cmp_lt, lg_cmp_eq, s_brT, s_brF, s_10, w_Mo_sumOf, r_Mo_sumOf, l_Mo_sumOf_0, l_Mo_sumOf_6, l_Mo_sumOf_58, kj_0, f_8_7, kl_8_153, kl_8_151, kl_8_139, kj_1, kl_8_155, Mh_y, Mh_1, Mh_s1, Mh_2, Mh_s2, Mh_3, Mh_s3, Mh_4, Mh_s4, Mh_5, Mh_s5, Mh_6, Mh_s6, Mh_7, Mh_s7, Mh_8, Mh_s8, Mh_9, Mh_s9, Mh_10, Mh_s10, Mh_11, Mh_s11, Mh_12, Mh_s12, Mh_13, Mh_s13, Mh_14, Mh_s14, Mh_15, Mh_s15, Mh_16, Mh_s16, Mh_17, Mh_s17, Mh_18, Mh_s18, Mh_19, Mh_s19, Mh_20, Mh_s20, Mh_21, Mh_s21, Mh_22, Mh_s22, Mh_23, Mh_s23, Mh_24, Mh_s24, Mh_p, show (lN i ≤ lN i) = True from eq_true ((pk_lLE (by omega) (by omega)).mpr (Nat.le_refl _)), lN_mask (show BS F st i i < 2 ^ 63 by omega)]
    rw [BS_sum]
    exact hq
  | succ r ih =>
    intro i hi
    have e1 : lN i - lN i / 4 * 4 = lN (i % 4) := pk_lRem (b := 4) (by omega) (by omega) (by omega)
    have b0 := hb (st + i)
    refine q_at o_Mo_sumOf [6] 20 l_Mo_sumOf_6 ?_
    simp -implicitDefEqProofs only [s_go, s_nil, s_cons, q_ins, s_op, s_i, s_j, s_a, s_v, s_li, s_lj, s_la, s_liO, s_ljO, s_laO, q_get, q_p1, q_p2, s_n2i, s_n2r, s_n2l, s_n2n, q_pad, q_ar, s_ob, s_obO, q_nth, s_ri, s_riO, s_rb, s_rbO, s_rzO, s_rl, s_rlO, s_rq, s_rqO, s_ry, s_ryO, s_dn, s_tl, s_tn, s_ap, s_an, s_ci, s_cr, s_ni, s_n0, s_n1, q_ags, q_cat, List.contains_nil, List.contains_cons, Nat.reduceBEq, Bool.or_false, Bool.false_or, Bool.true_or, Bool.false_eq_true, ↓reduceIte, Nat.le_refl, Nat.zero_le, true_and, and_true, Nat.reduceLeDiff, Nat.reduceAdd, Nat.add_zero, Nat.zero_add, List.length_cons, List.length_nil, List.set_cons_zero, List.set_cons_succ, Nat.reduceLT, s_fi, s_fl, s_fo, s_fa, s_f0, s_f1, s_set, s_ss, lg_cmp_ge, lg_cmp_le, lg_cmp_gt, lg_cmp_lt, lg_cmp_eq, s_brT, s_brF, s_10, w_Mo_sumOf, r_Mo_sumOf, l_Mo_sumOf_0, l_Mo_sumOf_6, l_Mo_sumOf_58, kj_0, f_8_7, kl_8_153, kl_8_151, kl_8_139, kj_1, kl_8_155, Mh_y, Mh_1, Mh_s1, Mh_2, Mh_s2, Mh_3, Mh_s3, Mh_4, Mh_s4, Mh_5, Mh_s5, Mh_6, Mh_s6, Mh_7, Mh_s7, Mh_8, Mh_s8, Mh_9, Mh_s9, Mh_10, Mh_s10, Mh_11, Mh_s11, Mh_12, Mh_s12, Mh_13, Mh_s13, Mh_14, Mh_s14, Mh_15, Mh_s15, Mh_16, Mh_s16, Mh_17, Mh_s17, Mh_18, Mh_s18, Mh_19, Mh_s19, Mh_20, Mh_s20, Mh_21, Mh_s21, Mh_22, Mh_s22, Mh_23, Mh_s23, Mh_24, Mh_s24, Mh_p, show (lN ln ≤ lN i) = False from eq_false (fun c => absurd ((pk_lLE (by omega) (by omega)).mp c) (by omega)), hg, lN_add, lN_i, nI_clamp (show st + i < 2 ^ 31 by omega), hv (st + i) (by omega), nI_l (show F (st + i) < 2 ^ 31 by omega)]
    refine ⟨vp_in_nI (by omega) (by omega), ?_⟩
    rw [e1]
    refine ⟨by decide, ?_⟩
    rw [show (8 : Int64) * lN (i % 4) = lN (8 * (i % 4)) from lN_mul 8 _, show (24 : Int64) - lN (8 * (i % 4)) = lN (24 - 8 * (i % 4)) from lN_sub (a := 24) (by omega), lN_i, sh_ok _ b0 _ (by omega), lN_add, lN_1]
    refine q_wk (ih (i + 1) (by omega)) ?_
    refine ⟨rfl, rfl, rfl, ?_, rfl, trivial⟩
    rw [BS_s, U8_in (by omega)]
set_option maxRecDepth 100000 in
set_option maxHeartbeats 4000000 in
theorem c_Mo_sumOf {G : q_G} {l : Launch} {d y n sz st ln : Nat} {fa si fo wi of_ bd pr le : Int32} {F : Nat → Nat} {g : Nat → Int32} {h : q_H} {Q : q_P} (hg : h (y + 1) = some (.inl (0, 16384, .inl g))) (hv : ∀ j, j < sz → g j = nI (F j)) (hb : ∀ j, F j < 256) (hs : sz ≤ 16384) (hin : st + ln ≤ sz) (hq : Q (some (.long (lN (SUMk F st ln ((ln + 3) / 4) % 4294967296)))) (Mh h y fa si fo wi of_ bd pr le) n) : q_Call G l M_Mo_sumOf d 0 0 [.ref y, .long (lN st), .long (lN ln)] (Mh h y fa si fo wi of_ bd pr le) n Q := by
  refine q_in u_Mo_sumOf (by rw [L_Mo_sumOf]; exact Nat.le_of_ble_eq_true rfl) ?_
  rw [L_Mo_sumOf]
  refine q_at o_Mo_sumOf [6] 20 l_Mo_sumOf_0 ?_
  simp -implicitDefEqProofs only [s_go, s_nil, s_cons, q_ins, s_op, s_i, s_j, s_a, s_v, s_li, s_lj, s_la, s_liO, s_ljO, s_laO, q_get, q_p1, q_p2, s_n2i, s_n2r, s_n2l, s_n2n, q_pad, q_ar, s_ob, s_obO, q_nth, s_ri, s_riO, s_rb, s_rbO, s_rzO, s_rl, s_rlO, s_rq, s_rqO, s_ry, s_ryO, s_dn, s_tl, s_tn, s_ap, s_an, s_ci, s_cr, s_ni, s_n0, s_n1, q_ags, q_cat, List.contains_nil, List.contains_cons, Nat.reduceBEq, Bool.or_false, Bool.false_or, Bool.true_or, Bool.false_eq_true, ↓reduceIte, Nat.le_refl, Nat.zero_le, true_and, and_true, Nat.reduceLeDiff, Nat.reduceAdd, Nat.add_zero, Nat.zero_add, List.length_cons, List.length_nil, List.set_cons_zero, List.set_cons_succ, Nat.reduceLT, s_fi, s_fl, s_fo, s_fa, s_f0, s_f1, s_set, s_ss, lg_cmp_ge, lg_cmp_le, lg_cmp_gt, lg_cmp_lt, lg_cmp_eq, s_brT, s_brF, s_10, w_Mo_sumOf, r_Mo_sumOf, l_Mo_sumOf_0, l_Mo_sumOf_6, l_Mo_sumOf_58, kj_0, f_8_7, kl_8_153, kl_8_151, kl_8_139, kj_1, kl_8_155, Mh_y, Mh_1, Mh_s1, Mh_2, Mh_s2, Mh_3, Mh_s3, Mh_4, Mh_s4, Mh_5, Mh_s5, Mh_6, Mh_s6, Mh_7, Mh_s7, Mh_8, Mh_s8, Mh_9, Mh_s9, Mh_10, Mh_s10, Mh_11, Mh_s11, Mh_12, Mh_s12, Mh_13, Mh_s13, Mh_14, Mh_s14, Mh_15, Mh_s15, Mh_16, Mh_s16, Mh_17, Mh_s17, Mh_18, Mh_s18, Mh_19, Mh_s19, Mh_20, Mh_s20, Mh_21, Mh_s21, Mh_22, Mh_s22, Mh_23, Mh_s23, Mh_24, Mh_s24, Mh_p]
  exact z_Mo_sumOf hg hv hb hs hin hq ln 0 (by omega)
set_option maxRecDepth 100000 in
set_option maxHeartbeats 4000000 in
theorem z_Mo_checkSums {G : q_G} {l : Launch} {d y n sz : Nat} {fa fo wi pr le : Int32} {F : Nat → Nat} {h : q_H} {Q : q_P} (hF : MoF h y 0 F sz) (hb : ∀ j, F j < 256) (hs : sz ≤ 16384) (hf : FILE_ok F sz) (q1 : SUMS_ok F sz → Q none (Mh h y fa (nI sz) fo wi 0 (bI false) pr le) n) (q0 : ¬ SUMS_ok F sz → Q none (Mh h y fa (nI sz) fo wi 0 (bI true) pr le) n) :
    ∀ (r k : Nat) (bb : Bool), k + r = NT F sz → (bb = false ↔ ∀ j, j < k → SUM1 F sz j) → q_Z G l M_Mo_checkSums (d + 4) 0 0 Q 2 [some (.ref y), some (.int (nI k)), none, none] [] (Mh h y fa (nI sz) fo wi 0 (bI bb) pr le) n 0 0 := by
  have hN : NT F sz < 65536 := U16_lt hb 0 sz 4
  obtain ⟨-, f1, f2, f3, f4⟩ := hf
  have hg : ∃ g : Nat → Int32, h (y + 1) = some (.inl (0, 16384, .inl g)) ∧ ∀ j, j < sz → g j = nI (F j) := by
    rcases hF with ⟨-, z⟩ | ⟨z, -⟩
    · exact z
    · exact absurd z (by decide)
  obtain ⟨g, hg, hv⟩ := hg
  intro r
  induction r with
  | zero =>
    intro k bb hk ib
    have e : k = NT F sz := by omega
    subst e
    refine q_at o_Mo_checkSums [2] 20 l_Mo_checkSums_2 ?_
    simp -implicitDefEqProofs only [s_go, s_nil, s_cons, q_ins, s_op, s_i, s_j, s_a, s_v, s_li, s_lj, s_la, s_liO, s_ljO, s_laO, q_get, q_p1, q_p2, s_n2i, s_n2r, s_n2l, s_n2n, q_pad, q_ar, s_ob, s_obO, q_nth, s_ri, s_riO, s_rb, s_rbO, s_rzO, s_rl, s_rlO, s_rq, s_rqO, s_ry, s_ryO, s_dn, s_tl, s_tn, s_ap, s_an, s_ci, s_cr, s_ni, s_n0, s_n1, q_ags, q_cat, List.contains_nil, List.contains_cons, Nat.reduceBEq, Bool.or_false, Bool.false_or, Bool.true_or, Bool.false_eq_true, ↓reduceIte, Nat.le_refl, Nat.zero_le, true_and, and_true, Nat.reduceLeDiff, Nat.reduceAdd, Nat.add_zero, Nat.zero_add, List.length_cons, List.length_nil, List.set_cons_zero, List.set_cons_succ, Nat.reduceLT, s_fi, s_fl, s_fo, s_fa, s_f0, s_f1, s_set, s_ss, lg_cmp_ge, lg_cmp_le, lg_cmp_gt, lg_cmp_lt, lg_cmp_eq, s_brT, s_brF, s_10, w_Mo_checkSums, r_Mo_checkSums, l_Mo_checkSums_0, l_Mo_checkSums_2, l_Mo_checkSums_79, l_Mo_checkSums_80, l_Mo_checkSums_89, kc_0, ml_8_141, w_Mo_tables, kl_8_147, kl_8_149, f_8_94, kl_8_151, ml_8_135, w_Mo_u32, ml_8_157, w_Mo_sumOf, kl_8_139, kc_1, ml_8_109, w_Mo_need, Mh_y, Mh_1, Mh_s1, Mh_2, Mh_s2, Mh_3, Mh_s3, Mh_4, Mh_s4, Mh_5, Mh_s5, Mh_6, Mh_s6, Mh_7, Mh_s7, Mh_8, Mh_s8, Mh_9, Mh_s9, Mh_10, Mh_s10, Mh_11, Mh_s11, Mh_12, Mh_s12, Mh_13, Mh_s13, Mh_14, Mh_s14, Mh_15, Mh_s15, Mh_16, Mh_s16, Mh_17, Mh_s17, Mh_18, Mh_s18, Mh_19, Mh_s19, Mh_20, Mh_s20, Mh_21, Mh_s21, Mh_22, Mh_s22, Mh_23, Mh_s23, Mh_24, Mh_s24, Mh_p]
    refine q_c0 (Nat.le_refl _) (Nat.le_refl _) ?_
    refine c_Mo_tables hF hs ?_
    rw [b_df bb (by omega)]
    simp -implicitDefEqProofs only [s_go, s_nil, s_cons, q_ins, s_op, s_i, s_j, s_a, s_v, s_li, s_lj, s_la, s_liO, s_ljO, s_laO, q_get, q_p1, q_p2, s_n2i, s_n2r, s_n2l, s_n2n, q_pad, q_ar, s_ob, s_obO, q_nth, s_ri, s_riO, s_rb, s_rbO, s_rzO, s_rl, s_rlO, s_rq, s_rqO, s_ry, s_ryO, s_dn, s_tl, s_tn, s_ap, s_an, s_ci, s_cr, s_ni, s_n0, s_n1, q_ags, q_cat, List.contains_nil, List.contains_cons, Nat.reduceBEq, Bool.or_false, Bool.false_or, Bool.true_or, Bool.false_eq_true, ↓reduceIte, Nat.le_refl, Nat.zero_le, true_and, and_true, Nat.reduceLeDiff, Nat.reduceAdd, Nat.add_zero, Nat.zero_add, List.length_cons, List.length_nil, List.set_cons_zero, List.set_cons_succ, Nat.reduceLT, s_fi, s_fl, s_fo, s_fa, s_f0, s_f1, s_set, s_ss, lg_cmp_ge, lg_cmp_le, lg_cmp_gt, lg_cmp_lt, lg_cmp_eq, s_brT, s_brF, s_10, w_Mo_checkSums, r_Mo_checkSums, l_Mo_checkSums_0, l_Mo_checkSums_2, l_Mo_checkSums_79, l_Mo_checkSums_80, l_Mo_checkSums_89, kc_0, ml_8_141, w_Mo_tables, kl_8_147, kl_8_149, f_8_94, kl_8_151, ml_8_135, w_Mo_u32, ml_8_157, w_Mo_sumOf, kl_8_139, kc_1, ml_8_109, w_Mo_need, Mh_y, Mh_1, Mh_s1, Mh_2, Mh_s2, Mh_3, Mh_s3, Mh_4, Mh_s4, Mh_5, Mh_s5, Mh_6, Mh_s6, Mh_7, Mh_s7, Mh_8, Mh_s8, Mh_9, Mh_s9, Mh_10, Mh_s10, Mh_11, Mh_s11, Mh_12, Mh_s12, Mh_13, Mh_s13, Mh_14, Mh_s14, Mh_15, Mh_s15, Mh_16, Mh_s16, Mh_17, Mh_s17, Mh_18, Mh_s18, Mh_19, Mh_s19, Mh_20, Mh_s20, Mh_21, Mh_s21, Mh_22, Mh_s22, Mh_23, Mh_s23, Mh_24, Mh_s24, Mh_p, show (nI (NT F sz) ≤ nI (NT F sz)) = True from eq_true (nI_le (by omega) (by omega))]
    cases bb
    · exact q1 (ib.mp rfl)
    · exact q0 (fun z => Bool.false_ne_true (ib.mpr z).symm)
  | succ r ih =>
    intro k bb hk ib
    have b1 : T_s F sz k < 4294967296 := U32_lt hb 0 sz (12 + 16 * k + 4)
    have tk := (f4 k (by omega)).2
    have J : ∀ so : Bool, (so = true ↔ SUM1 F sz k) → q_Z G l M_Mo_checkSums (d + 4) 0 0 Q 80 [some (.ref y), some (.int (nI k)), some (.long (lN (12 + 16 * k))), none] [.int (bI so), .ref y] (Mh h y fa (nI sz) fo wi 0 (bI bb) pr le) n 0 0 := by
      intro so e
      refine q_at o_Mo_checkSums [2] 20 l_Mo_checkSums_80 ?_
      simp -implicitDefEqProofs only [s_go, s_nil, s_cons, q_ins, s_op, s_i, s_j, s_a, s_v, s_li, s_lj, s_la, s_liO, s_ljO, s_laO, q_get, q_p1, q_p2, s_n2i, s_n2r, s_n2l, s_n2n, q_pad, q_ar, s_ob, s_obO, q_nth, s_ri, s_riO, s_rb, s_rbO, s_rzO, s_rl, s_rlO, s_rq, s_rqO, s_ry, s_ryO, s_dn, s_tl, s_tn, s_ap, s_an, s_ci, s_cr, s_ni, s_n0, s_n1, q_ags, q_cat, List.contains_nil, List.contains_cons, Nat.reduceBEq, Bool.or_false, Bool.false_or, Bool.true_or, Bool.false_eq_true, ↓reduceIte, Nat.le_refl, Nat.zero_le, true_and, and_true, Nat.reduceLeDiff, Nat.reduceAdd, Nat.add_zero, Nat.zero_add, List.length_cons, List.length_nil, List.set_cons_zero, List.set_cons_succ, Nat.reduceLT, s_fi, s_fl, s_fo, s_fa, s_f0, s_f1, s_set, s_ss, lg_cmp_ge, lg_cmp_le, lg_cmp_gt, lg_cmp_lt, lg_cmp_eq, s_brT, s_brF, s_10, w_Mo_checkSums, r_Mo_checkSums, l_Mo_checkSums_0, l_Mo_checkSums_2, l_Mo_checkSums_79, l_Mo_checkSums_80, l_Mo_checkSums_89, kc_0, ml_8_141, w_Mo_tables, kl_8_147, kl_8_149, f_8_94, kl_8_151, ml_8_135, w_Mo_u32, ml_8_157, w_Mo_sumOf, kl_8_139, kc_1, ml_8_109, w_Mo_need, Mh_y, Mh_1, Mh_s1, Mh_2, Mh_s2, Mh_3, Mh_s3, Mh_4, Mh_s4, Mh_5, Mh_s5, Mh_6, Mh_s6, Mh_7, Mh_s7, Mh_8, Mh_s8, Mh_9, Mh_s9, Mh_10, Mh_s10, Mh_11, Mh_s11, Mh_12, Mh_s12, Mh_13, Mh_s13, Mh_14, Mh_s14, Mh_15, Mh_s15, Mh_16, Mh_s16, Mh_17, Mh_s17, Mh_18, Mh_s18, Mh_19, Mh_s19, Mh_20, Mh_s20, Mh_21, Mh_s21, Mh_22, Mh_s22, Mh_23, Mh_s23, Mh_24, Mh_s24, Mh_p]
      refine q_c0 (Nat.le_refl _) (Nat.le_refl _) ?_
      refine c_Mo_need rfl ?_
      simp -implicitDefEqProofs only [s_go, s_nil, s_cons, q_ins, s_op, s_i, s_j, s_a, s_v, s_li, s_lj, s_la, s_liO, s_ljO, s_laO, q_get, q_p1, q_p2, s_n2i, s_n2r, s_n2l, s_n2n, q_pad, q_ar, s_ob, s_obO, q_nth, s_ri, s_riO, s_rb, s_rbO, s_rzO, s_rl, s_rlO, s_rq, s_rqO, s_ry, s_ryO, s_dn, s_tl, s_tn, s_ap, s_an, s_ci, s_cr, s_ni, s_n0, s_n1, q_ags, q_cat, List.contains_nil, List.contains_cons, Nat.reduceBEq, Bool.or_false, Bool.false_or, Bool.true_or, Bool.false_eq_true, ↓reduceIte, Nat.le_refl, Nat.zero_le, true_and, and_true, Nat.reduceLeDiff, Nat.reduceAdd, Nat.add_zero, Nat.zero_add, List.length_cons, List.length_nil, List.set_cons_zero, List.set_cons_succ, Nat.reduceLT, s_fi, s_fl, s_fo, s_fa, s_f0, s_f1, s_set, s_ss, lg_cmp_ge, lg_cmp_le, lg_cmp_gt, lg_cmp_lt, lg_cmp_eq, s_brT, s_brF, s_10, w_Mo_checkSums, r_Mo_checkSums, l_Mo_checkSums_0, l_Mo_checkSums_2, l_Mo_checkSums_79, l_Mo_checkSums_80, l_Mo_checkSums_89, kc_0, ml_8_141, w_Mo_tables, kl_8_147, kl_8_149, f_8_94, kl_8_151, ml_8_135, w_Mo_u32, ml_8_157, w_Mo_sumOf, kl_8_139, kc_1, ml_8_109, w_Mo_need, Mh_y, Mh_1, Mh_s1, Mh_2, Mh_s2, Mh_3, Mh_s3, Mh_4, Mh_s4, Mh_5, Mh_s5, Mh_6, Mh_s6, Mh_7, Mh_s7, Mh_8, Mh_s8, Mh_9, Mh_s9, Mh_10, Mh_s10, Mh_11, Mh_s11, Mh_12, Mh_s12, Mh_13, Mh_s13, Mh_14, Mh_s14, Mh_15, Mh_s15, Mh_16, Mh_s16, Mh_17, Mh_s17, Mh_18, Mh_s18, Mh_19, Mh_s19, Mh_20, Mh_s20, Mh_21, Mh_s21, Mh_22, Mh_s22, Mh_23, Mh_s23, Mh_24, Mh_s24, Mh_p, nI_1]
      refine q_wk (ih (k + 1) (bb || !so) (by omega) ?_) ⟨rfl, rfl, trivial⟩
      rw [Bool.or_eq_false_iff, ib, Bool.not_eq_false', e]
      constructor
      · intro z j hj
        rcases Nat.lt_or_ge j k with y | y
        · exact z.1 j y
        · rw [show j = k by omega]; exact z.2
      · exact fun z => ⟨fun j hj => z j (by omega), z k (by omega)⟩
    refine q_at o_Mo_checkSums [2, 80] 20 l_Mo_checkSums_2 ?_
    simp -implicitDefEqProofs only [s_go, s_nil, s_cons, q_ins, s_op, s_i, s_j, s_a, s_v, s_li, s_lj, s_la, s_liO, s_ljO, s_laO, q_get, q_p1, q_p2, s_n2i, s_n2r, s_n2l, s_n2n, q_pad, q_ar, s_ob, s_obO, q_nth, s_ri, s_riO, s_rb, s_rbO, s_rzO, s_rl, s_rlO, s_rq, s_rqO, s_ry, s_ryO, s_dn, s_tl, s_tn, s_ap, s_an, s_ci, s_cr, s_ni, s_n0, s_n1, q_ags, q_cat, List.contains_nil, List.contains_cons, Nat.reduceBEq, Bool.or_false, Bool.false_or, Bool.true_or, Bool.false_eq_true, ↓reduceIte, Nat.le_refl, Nat.zero_le, true_and, and_true, Nat.reduceLeDiff, Nat.reduceAdd, Nat.add_zero, Nat.zero_add, List.length_cons, List.length_nil, List.set_cons_zero, List.set_cons_succ, Nat.reduceLT, s_fi, s_fl, s_fo, s_fa, s_f0, s_f1, s_set, s_ss, lg_cmp_ge, lg_cmp_le, lg_cmp_gt, lg_cmp_lt, lg_cmp_eq, s_brT, s_brF, s_10, w_Mo_checkSums, r_Mo_checkSums, l_Mo_checkSums_0, l_Mo_checkSums_2, l_Mo_checkSums_79, l_Mo_checkSums_80, l_Mo_checkSums_89, kc_0, ml_8_141, w_Mo_tables, kl_8_147, kl_8_149, f_8_94, kl_8_151, ml_8_135, w_Mo_u32, ml_8_157, w_Mo_sumOf, kl_8_139, kc_1, ml_8_109, w_Mo_need, Mh_y, Mh_1, Mh_s1, Mh_2, Mh_s2, Mh_3, Mh_s3, Mh_4, Mh_s4, Mh_5, Mh_s5, Mh_6, Mh_s6, Mh_7, Mh_s7, Mh_8, Mh_s8, Mh_9, Mh_s9, Mh_10, Mh_s10, Mh_11, Mh_s11, Mh_12, Mh_s12, Mh_13, Mh_s13, Mh_14, Mh_s14, Mh_15, Mh_s15, Mh_16, Mh_s16, Mh_17, Mh_s17, Mh_18, Mh_s18, Mh_19, Mh_s19, Mh_20, Mh_s20, Mh_21, Mh_s21, Mh_22, Mh_s22, Mh_23, Mh_s23, Mh_24, Mh_s24, Mh_p]
    refine q_c0 (Nat.le_refl _) (Nat.le_refl _) ?_
    refine c_Mo_tables hF hs ?_
    rw [b_df bb (by omega)]
    simp -implicitDefEqProofs only [s_go, s_nil, s_cons, q_ins, s_op, s_i, s_j, s_a, s_v, s_li, s_lj, s_la, s_liO, s_ljO, s_laO, q_get, q_p1, q_p2, s_n2i, s_n2r, s_n2l, s_n2n, q_pad, q_ar, s_ob, s_obO, q_nth, s_ri, s_riO, s_rb, s_rbO, s_rzO, s_rl, s_rlO, s_rq, s_rqO, s_ry, s_ryO, s_dn, s_tl, s_tn, s_ap, s_an, s_ci, s_cr, s_ni, s_n0, s_n1, q_ags, q_cat, List.contains_nil, List.contains_cons, Nat.reduceBEq, Bool.or_false, Bool.false_or, Bool.true_or, Bool.false_eq_true, ↓reduceIte, Nat.le_refl, Nat.zero_le, true_and, and_true, Nat.reduceLeDiff, Nat.reduceAdd, Nat.add_zero, Nat.zero_add, List.length_cons, List.length_nil, List.set_cons_zero, List.set_cons_succ, Nat.reduceLT, s_fi, s_fl, s_fo, s_fa, s_f0, s_f1, s_set, s_ss, lg_cmp_ge, lg_cmp_le, lg_cmp_gt, lg_cmp_lt, lg_cmp_eq, s_brT, s_brF, s_10, w_Mo_checkSums, r_Mo_checkSums, l_Mo_checkSums_0, l_Mo_checkSums_2, l_Mo_checkSums_79, l_Mo_checkSums_80, l_Mo_checkSums_89, kc_0, ml_8_141, w_Mo_tables, kl_8_147, kl_8_149, f_8_94, kl_8_151, ml_8_135, w_Mo_u32, ml_8_157, w_Mo_sumOf, kl_8_139, kc_1, ml_8_109, w_Mo_need, Mh_y, Mh_1, Mh_s1, Mh_2, Mh_s2, Mh_3, Mh_s3, Mh_4, Mh_s4, Mh_5, Mh_s5, Mh_6, Mh_s6, Mh_7, Mh_s7, Mh_8, Mh_s8, Mh_9, Mh_s9, Mh_10, Mh_s10, Mh_11, Mh_s11, Mh_12, Mh_s12, Mh_13, Mh_s13, Mh_14, Mh_s14, Mh_15, Mh_s15, Mh_16, Mh_s16, Mh_17, Mh_s17, Mh_18, Mh_s18, Mh_19, Mh_s19, Mh_20, Mh_s20, Mh_21, Mh_s21, Mh_22, Mh_s22, Mh_23, Mh_s23, Mh_24, Mh_s24, Mh_p, show (nI (NT F sz) ≤ nI k) = False from eq_false (fun c => absurd ((nI_leI (by omega) (by omega)).mp c) (by omega)), nI_l (show sz < 2 ^ 31 by omega), nI_l (show k < 2 ^ 31 by omega), show (16 : Int64) * lN k = lN (16 * k) from lN_mul 16 k, show (12 : Int64) + lN (16 * k) = lN (12 + 16 * k) from lN_add 12 _, show lN (12 + 16 * k) + 8 = lN (12 + 16 * k + 8) from lN_add _ 8]
    refine q_c0 (Nat.le_refl _) (Nat.le_refl _) ?_
    refine c_Mo_u32 (w := 0) hF hb (by omega) hs (by omega) ?_
    rw [b_df bb (by omega)]
    simp -implicitDefEqProofs only [s_go, s_nil, s_cons, q_ins, s_op, s_i, s_j, s_a, s_v, s_li, s_lj, s_la, s_liO, s_ljO, s_laO, q_get, q_p1, q_p2, s_n2i, s_n2r, s_n2l, s_n2n, q_pad, q_ar, s_ob, s_obO, q_nth, s_ri, s_riO, s_rb, s_rbO, s_rzO, s_rl, s_rlO, s_rq, s_rqO, s_ry, s_ryO, s_dn, s_tl, s_tn, s_ap, s_an, s_ci, s_cr, s_ni, s_n0, s_n1, q_ags, q_cat, List.contains_nil, List.contains_cons, Nat.reduceBEq, Bool.or_false, Bool.false_or, Bool.true_or, Bool.false_eq_true, ↓reduceIte, Nat.le_refl, Nat.zero_le, true_and, and_true, Nat.reduceLeDiff, Nat.reduceAdd, Nat.add_zero, Nat.zero_add, List.length_cons, List.length_nil, List.set_cons_zero, List.set_cons_succ, Nat.reduceLT, s_fi, s_fl, s_fo, s_fa, s_f0, s_f1, s_set, s_ss, lg_cmp_ge, lg_cmp_le, lg_cmp_gt, lg_cmp_lt, lg_cmp_eq, s_brT, s_brF, s_10, w_Mo_checkSums, r_Mo_checkSums, l_Mo_checkSums_0, l_Mo_checkSums_2, l_Mo_checkSums_79, l_Mo_checkSums_80, l_Mo_checkSums_89, kc_0, ml_8_141, w_Mo_tables, kl_8_147, kl_8_149, f_8_94, kl_8_151, ml_8_135, w_Mo_u32, ml_8_157, w_Mo_sumOf, kl_8_139, kc_1, ml_8_109, w_Mo_need, Mh_y, Mh_1, Mh_s1, Mh_2, Mh_s2, Mh_3, Mh_s3, Mh_4, Mh_s4, Mh_5, Mh_s5, Mh_6, Mh_s6, Mh_7, Mh_s7, Mh_8, Mh_s8, Mh_9, Mh_s9, Mh_10, Mh_s10, Mh_11, Mh_s11, Mh_12, Mh_s12, Mh_13, Mh_s13, Mh_14, Mh_s14, Mh_15, Mh_s15, Mh_16, Mh_s16, Mh_17, Mh_s17, Mh_18, Mh_s18, Mh_19, Mh_s19, Mh_20, Mh_s20, Mh_21, Mh_s21, Mh_22, Mh_s22, Mh_23, Mh_s23, Mh_24, Mh_s24, Mh_p, nI_l (show sz < 2 ^ 31 by omega), show lN (12 + 16 * k) + 12 = lN (12 + 16 * k + 12) from lN_add _ 12]
    refine q_c0 (Nat.le_refl _) (Nat.le_refl _) ?_
    refine c_Mo_u32 (w := 0) hF hb (by omega) hs (by omega) ?_
    rw [b_df bb (by omega)]
    simp -implicitDefEqProofs only [s_go, s_nil, s_cons, q_ins, s_op, s_i, s_j, s_a, s_v, s_li, s_lj, s_la, s_liO, s_ljO, s_laO, q_get, q_p1, q_p2, s_n2i, s_n2r, s_n2l, s_n2n, q_pad, q_ar, s_ob, s_obO, q_nth, s_ri, s_riO, s_rb, s_rbO, s_rzO, s_rl, s_rlO, s_rq, s_rqO, s_ry, s_ryO, s_dn, s_tl, s_tn, s_ap, s_an, s_ci, s_cr, s_ni, s_n0, s_n1, q_ags, q_cat, List.contains_nil, List.contains_cons, Nat.reduceBEq, Bool.or_false, Bool.false_or, Bool.true_or, Bool.false_eq_true, ↓reduceIte, Nat.le_refl, Nat.zero_le, true_and, and_true, Nat.reduceLeDiff, Nat.reduceAdd, Nat.add_zero, Nat.zero_add, List.length_cons, List.length_nil, List.set_cons_zero, List.set_cons_succ, Nat.reduceLT, s_fi, s_fl, s_fo, s_fa, s_f0, s_f1, s_set, s_ss, lg_cmp_ge, lg_cmp_le, lg_cmp_gt, lg_cmp_lt, lg_cmp_eq, s_brT, s_brF, s_10, w_Mo_checkSums, r_Mo_checkSums, l_Mo_checkSums_0, l_Mo_checkSums_2, l_Mo_checkSums_79, l_Mo_checkSums_80, l_Mo_checkSums_89, kc_0, ml_8_141, w_Mo_tables, kl_8_147, kl_8_149, f_8_94, kl_8_151, ml_8_135, w_Mo_u32, ml_8_157, w_Mo_sumOf, kl_8_139, kc_1, ml_8_109, w_Mo_need, Mh_y, Mh_1, Mh_s1, Mh_2, Mh_s2, Mh_3, Mh_s3, Mh_4, Mh_s4, Mh_5, Mh_s5, Mh_6, Mh_s6, Mh_7, Mh_s7, Mh_8, Mh_s8, Mh_9, Mh_s9, Mh_10, Mh_s10, Mh_11, Mh_s11, Mh_12, Mh_s12, Mh_13, Mh_s13, Mh_14, Mh_s14, Mh_15, Mh_s15, Mh_16, Mh_s16, Mh_17, Mh_s17, Mh_18, Mh_s18, Mh_19, Mh_s19, Mh_20, Mh_s20, Mh_21, Mh_s21, Mh_22, Mh_s22, Mh_23, Mh_s23, Mh_24, Mh_s24, Mh_p]
    refine q_c0 (Nat.le_refl _) (Nat.le_refl _) ?_
    refine c_Mo_sumOf (st := T_p F sz k) (ln := T_l F sz k) hg hv hb hs tk ?_
    simp -implicitDefEqProofs only [s_go, s_nil, s_cons, q_ins, s_op, s_i, s_j, s_a, s_v, s_li, s_lj, s_la, s_liO, s_ljO, s_laO, q_get, q_p1, q_p2, s_n2i, s_n2r, s_n2l, s_n2n, q_pad, q_ar, s_ob, s_obO, q_nth, s_ri, s_riO, s_rb, s_rbO, s_rzO, s_rl, s_rlO, s_rq, s_rqO, s_ry, s_ryO, s_dn, s_tl, s_tn, s_ap, s_an, s_ci, s_cr, s_ni, s_n0, s_n1, q_ags, q_cat, List.contains_nil, List.contains_cons, Nat.reduceBEq, Bool.or_false, Bool.false_or, Bool.true_or, Bool.false_eq_true, ↓reduceIte, Nat.le_refl, Nat.zero_le, true_and, and_true, Nat.reduceLeDiff, Nat.reduceAdd, Nat.add_zero, Nat.zero_add, List.length_cons, List.length_nil, List.set_cons_zero, List.set_cons_succ, Nat.reduceLT, s_fi, s_fl, s_fo, s_fa, s_f0, s_f1, s_set, s_ss, lg_cmp_ge, lg_cmp_le, lg_cmp_gt, lg_cmp_lt, lg_cmp_eq, s_brT, s_brF, s_10, w_Mo_checkSums, r_Mo_checkSums, l_Mo_checkSums_0, l_Mo_checkSums_2, l_Mo_checkSums_79, l_Mo_checkSums_80, l_Mo_checkSums_89, kc_0, ml_8_141, w_Mo_tables, kl_8_147, kl_8_149, f_8_94, kl_8_151, ml_8_135, w_Mo_u32, ml_8_157, w_Mo_sumOf, kl_8_139, kc_1, ml_8_109, w_Mo_need, Mh_y, Mh_1, Mh_s1, Mh_2, Mh_s2, Mh_3, Mh_s3, Mh_4, Mh_s4, Mh_5, Mh_s5, Mh_6, Mh_s6, Mh_7, Mh_s7, Mh_8, Mh_s8, Mh_9, Mh_s9, Mh_10, Mh_s10, Mh_11, Mh_s11, Mh_12, Mh_s12, Mh_13, Mh_s13, Mh_14, Mh_s14, Mh_15, Mh_s15, Mh_16, Mh_s16, Mh_17, Mh_s17, Mh_18, Mh_s18, Mh_19, Mh_s19, Mh_20, Mh_s20, Mh_21, Mh_s21, Mh_22, Mh_s22, Mh_23, Mh_s23, Mh_24, Mh_s24, Mh_p, nI_l (show sz < 2 ^ 31 by omega), show lN (12 + 16 * k) + 4 = lN (12 + 16 * k + 4) from lN_add _ 4]
    refine q_c0 (Nat.le_refl _) (Nat.le_refl _) ?_
    refine c_Mo_u32 (w := 0) hF hb (by omega) hs (by omega) ?_
    rw [b_df bb (by omega)]
    simp -implicitDefEqProofs only [s_go, s_nil, s_cons, q_ins, s_op, s_i, s_j, s_a, s_v, s_li, s_lj, s_la, s_liO, s_ljO, s_laO, q_get, q_p1, q_p2, s_n2i, s_n2r, s_n2l, s_n2n, q_pad, q_ar, s_ob, s_obO, q_nth, s_ri, s_riO, s_rb, s_rbO, s_rzO, s_rl, s_rlO, s_rq, s_rqO, s_ry, s_ryO, s_dn, s_tl, s_tn, s_ap, s_an, s_ci, s_cr, s_ni, s_n0, s_n1, q_ags, q_cat, List.contains_nil, List.contains_cons, Nat.reduceBEq, Bool.or_false, Bool.false_or, Bool.true_or, Bool.false_eq_true, ↓reduceIte, Nat.le_refl, Nat.zero_le, true_and, and_true, Nat.reduceLeDiff, Nat.reduceAdd, Nat.add_zero, Nat.zero_add, List.length_cons, List.length_nil, List.set_cons_zero, List.set_cons_succ, Nat.reduceLT, s_fi, s_fl, s_fo, s_fa, s_f0, s_f1, s_set, s_ss, lg_cmp_ge, lg_cmp_le, lg_cmp_gt, lg_cmp_lt, lg_cmp_eq, s_brT, s_brF, s_10, w_Mo_checkSums, r_Mo_checkSums, l_Mo_checkSums_0, l_Mo_checkSums_2, l_Mo_checkSums_79, l_Mo_checkSums_80, l_Mo_checkSums_89, kc_0, ml_8_141, w_Mo_tables, kl_8_147, kl_8_149, f_8_94, kl_8_151, ml_8_135, w_Mo_u32, ml_8_157, w_Mo_sumOf, kl_8_139, kc_1, ml_8_109, w_Mo_need, Mh_y, Mh_1, Mh_s1, Mh_2, Mh_s2, Mh_3, Mh_s3, Mh_4, Mh_s4, Mh_5, Mh_s5, Mh_6, Mh_s6, Mh_7, Mh_s7, Mh_8, Mh_s8, Mh_9, Mh_s9, Mh_10, Mh_s10, Mh_11, Mh_s11, Mh_12, Mh_s12, Mh_13, Mh_s13, Mh_14, Mh_s14, Mh_15, Mh_s15, Mh_16, Mh_s16, Mh_17, Mh_s17, Mh_18, Mh_s18, Mh_19, Mh_s19, Mh_20, Mh_s20, Mh_21, Mh_s21, Mh_22, Mh_s22, Mh_23, Mh_s23, Mh_24, Mh_s24, Mh_p]
    refine ⟨fun c => J true ⟨fun _ => (pk_lEQ (b := T_s F sz k) (by omega) (by omega)).mp c, fun _ => rfl⟩, fun c => J false ⟨fun z => (by cases z), fun z => absurd ((pk_lEQ (b := T_s F sz k) (by omega) (by omega)).mpr z) c⟩⟩
set_option maxRecDepth 100000 in
set_option maxHeartbeats 4000000 in
theorem c_Mo_checkSums {G : q_G} {l : Launch} {d y n sz : Nat} {fa fo wi pr le : Int32} {F : Nat → Nat} {h : q_H} {Q : q_P} (hF : MoF h y 0 F sz) (hb : ∀ j, F j < 256) (hs : sz ≤ 16384) (hf : FILE_ok F sz) (q1 : SUMS_ok F sz → Q none (Mh h y fa (nI sz) fo wi 0 (bI false) pr le) n) (q0 : ¬ SUMS_ok F sz → Q none (Mh h y fa (nI sz) fo wi 0 (bI true) pr le) n) : q_Call G l M_Mo_checkSums (d + 4) 0 0 [.ref y] (Mh h y fa (nI sz) fo wi 0 (bI false) pr le) n Q := by
  refine q_in u_Mo_checkSums (by rw [L_Mo_checkSums]; exact Nat.le_of_ble_eq_true rfl) ?_
  rw [L_Mo_checkSums]
  refine q_at o_Mo_checkSums [2] 20 l_Mo_checkSums_0 ?_
  simp -implicitDefEqProofs only [s_go, s_nil, s_cons, q_ins, s_op, s_i, s_j, s_a, s_v, s_li, s_lj, s_la, s_liO, s_ljO, s_laO, q_get, q_p1, q_p2, s_n2i, s_n2r, s_n2l, s_n2n, q_pad, q_ar, s_ob, s_obO, q_nth, s_ri, s_riO, s_rb, s_rbO, s_rzO, s_rl, s_rlO, s_rq, s_rqO, s_ry, s_ryO, s_dn, s_tl, s_tn, s_ap, s_an, s_ci, s_cr, s_ni, s_n0, s_n1, q_ags, q_cat, List.contains_nil, List.contains_cons, Nat.reduceBEq, Bool.or_false, Bool.false_or, Bool.true_or, Bool.false_eq_true, ↓reduceIte, Nat.le_refl, Nat.zero_le, true_and, and_true, Nat.reduceLeDiff, Nat.reduceAdd, Nat.add_zero, Nat.zero_add, List.length_cons, List.length_nil, List.set_cons_zero, List.set_cons_succ, Nat.reduceLT, s_fi, s_fl, s_fo, s_fa, s_f0, s_f1, s_set, s_ss, lg_cmp_ge, lg_cmp_le, lg_cmp_gt, lg_cmp_lt, lg_cmp_eq, s_brT, s_brF, s_10, w_Mo_checkSums, r_Mo_checkSums, l_Mo_checkSums_0, l_Mo_checkSums_2, l_Mo_checkSums_79, l_Mo_checkSums_80, l_Mo_checkSums_89, kc_0, ml_8_141, w_Mo_tables, kl_8_147, kl_8_149, f_8_94, kl_8_151, ml_8_135, w_Mo_u32, ml_8_157, w_Mo_sumOf, kl_8_139, kc_1, ml_8_109, w_Mo_need, Mh_y, Mh_1, Mh_s1, Mh_2, Mh_s2, Mh_3, Mh_s3, Mh_4, Mh_s4, Mh_5, Mh_s5, Mh_6, Mh_s6, Mh_7, Mh_s7, Mh_8, Mh_s8, Mh_9, Mh_s9, Mh_10, Mh_s10, Mh_11, Mh_s11, Mh_12, Mh_s12, Mh_13, Mh_s13, Mh_14, Mh_s14, Mh_15, Mh_s15, Mh_16, Mh_s16, Mh_17, Mh_s17, Mh_18, Mh_s18, Mh_19, Mh_s19, Mh_20, Mh_s20, Mh_21, Mh_s21, Mh_22, Mh_s22, Mh_23, Mh_s23, Mh_24, Mh_s24, Mh_p]
  exact z_Mo_checkSums hF hb hs hf q1 q0 (NT F sz) 0 false (by omega) ⟨fun _ j hj => absurd hj (by omega), fun _ => rfl⟩
