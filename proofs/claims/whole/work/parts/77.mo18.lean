/-! the reference: readPart -/
def CN (f : Nat) : Nat := f / 2 ^ 3 % 2 + 2 * (f / 2 ^ 6 % 2) + 4 * (f / 2 ^ 7 % 2)
theorem CN_le (f : Nat) : CN f ≤ 7 := by unfold CN; omega
theorem BC_cn {f : Nat} (h : BC f ≤ 1) : CN f = NF f ∧ (CN f = 0 ∨ CN f = 1 ∨ CN f = 2 ∨ CN f = 4) := by
  have h : f / 8 % 2 + f / 64 % 2 + f / 128 % 2 ≤ 1 := h
  have e : CN f = f / 8 % 2 + 2 * (f / 64 % 2) + 4 * (f / 128 % 2) := rfl
  have n : NF f = if f / 8 % 2 = 1 then 1 else if f / 64 % 2 = 1 then 2 else if f / 128 % 2 = 1 then 4 else 0 := rfl
  rw [e, n]
  split
  · omega
  · split
    · omega
    · split
      · omega
      · omega
def rb (ln t cnt : Nat) (bb : Bool) : Bool := rq_b ln t cnt (if cnt = 0 then bb else (bb || decide (ln < t + 2)))
theorem rb_true (ln t cnt : Nat) : rb ln t cnt true = true := by
  unfold rb rq_b
  rw [Bool.true_or, ite_self]
  split
  · rfl
  · split <;> simp
theorem rb_false {ln t cnt : Nat} (hc : cnt = 0 ∨ cnt = 1 ∨ cnt = 2 ∨ cnt = 4) : rb ln t cnt false = false ↔ (cnt = 0 ∨ t + 2 * cnt ≤ ln) := by
  unfold rb rq_b
  rcases hc with rfl | rfl | rfl | rfl
  · simp
  · simp
  · simp
    omega
  · simp
    omega
set_option maxRecDepth 100000 in
set_option maxHeartbeats 4000000 in
theorem r247 {G : q_G} {l : Launch} {dd y n d t f gl w ln sz : Nat} {fa si fo wi of_ pr le P R : Int32} {bb so : Bool} {x6 x7 x10 : Option Value} {F : Nat → Nat} {h : q_H} {Q : q_P} (hd : d ≤ 5) (ht : t < 100000) (hf : f < 65536) (E : MoE h y) (hW : WN h y d w ln) (hF : MoF h y of_ F sz) (hb : ∀ j, F j < 256) (hin : w + ln ≤ sz) (hs : sz ≤ 16384)
    (K : ∀ h', MoE h' y → R3 h h' y d f (iI (if CN f = 0 then 16384 else S16 (U16 F w ln t))) (iI (rq_B F w ln t (CN f))) (iI (rq_C F w ln t (CN f))) (iI (rq_D F w ln t (CN f) (if CN f = 0 then 16384 else S16 (U16 F w ln t)))) P R (t + 2 * CN f) → Q (some (.int (if rb ln t (CN f) (bb || !so) = true then 0 else nI gl))) (Mh h' y fa si fo wi of_ (bI (rb ln t (CN f) (bb || !so))) pr (if d = 0 ∧ BT f 9 then nI gl else le)) n) :
    q_Z G l M_Mo_readPart (dd + 5) 0 0 Q 247 [some (.ref y), some (.int (nI d)), some (.long (lN t)), none, some (.int (nI f)), some (.int (nI gl)), x6, x7, some (.int P), some (.int R), x10, none] [.int (bI so), .ref y] (Mh h y fa si fo wi of_ (bI bb) pr le) n 0 0 := by
  have cl := CN_le f
  have ec : nI (f / 2 ^ 3 % 2) + 2 * nI (f / 2 ^ 6 % 2) + 4 * nI (f / 2 ^ 7 % 2) = nI (CN f) := by
    rw [show (2 : Int32) * nI (f / 2 ^ 6 % 2) = nI (2 * (f / 2 ^ 6 % 2)) from pk_mul 2 _, show (4 : Int32) * nI (f / 2 ^ 7 % 2) = nI (4 * (f / 2 ^ 7 % 2)) from pk_mul 4 _, nI_add, nI_add]
    rfl
  refine q_at o_Mo_readPart [300] 20 l_Mo_readPart_247 ?_
  simp -implicitDefEqProofs only [s_go, s_nil, s_cons, q_ins, s_op, s_i, s_j, s_a, s_v, s_li, s_lj, s_la, s_liO, s_ljO, s_laO, q_get, q_p1, q_p2, s_n2i, s_n2r, s_n2l, s_n2n, q_pad, q_ar, s_ob, s_obO, q_nth, s_ri, s_riO, s_rb, s_rbO, s_rzO, s_rl, s_rlO, s_rq, s_rqO, s_ry, s_ryO, s_dn, s_tl, s_tn, s_ap, s_an, s_ci, s_cr, s_ni, s_n0, s_n1, q_ags, q_cat, List.contains_nil, List.contains_cons, Nat.reduceBEq, Bool.or_false, Bool.false_or, Bool.true_or, Bool.false_eq_true, ↓reduceIte, Nat.le_refl, Nat.zero_le, true_and, and_true, Nat.reduceLeDiff, Nat.reduceAdd, Nat.add_zero, Nat.zero_add, List.length_cons, List.length_nil, List.set_cons_zero, List.set_cons_succ, Nat.reduceLT, s_fi, s_fl, s_fo, s_fa, s_f0, s_f1, s_set, s_ss, lg_cmp_ge, lg_cmp_le, lg_cmp_gt, lg_cmp_lt, lg_cmp_eq, s_brT, s_brF, s_10, w_Mo_readPart, r_Mo_readPart, l_Mo_readPart_0, l_Mo_readPart_45, l_Mo_readPart_46, l_Mo_readPart_115, l_Mo_readPart_116, l_Mo_readPart_131, l_Mo_readPart_132, l_Mo_readPart_148, l_Mo_readPart_149, l_Mo_readPart_181, l_Mo_readPart_184, l_Mo_readPart_206, l_Mo_readPart_209, l_Mo_readPart_246, l_Mo_readPart_247, l_Mo_readPart_297, l_Mo_readPart_300, l_Mo_readPart_317, l_Mo_readPart_332, l_Mo_readPart_348, l_Mo_readPart_373, l_Mo_readPart_374, l_Mo_readPart_399, l_Mo_readPart_400, l_Mo_readPart_446, l_Mo_readPart_450, l_Mo_readPart_472, l_Mo_readPart_473, l_Mo_readPart_501, l_Mo_readPart_503, f_8_247, kc_1, ty_8_30, f_8_47, kb_64, kb_16, kc_0, ml_8_109, w_Mo_need, f_8_50, f_8_53, f_8_56, ml_8_120, w_Mo_u16, kl_8_126, ml_8_175, w_Mo_glyphCount, kc_2, kl_8_139, ml_8_285, w_Mo_number, kl_8_205, kl_8_289, kl_8_151, kc_3, kb_6, kb_7, kc_4, f_8_71, ml_8_291, w_Mo_f16, ks_16384, f_8_80, f_8_74, f_8_77, f_8_62, f_8_65, f_8_68, kb_9, f_8_250, ty_8_31, f_8_59, kc_5, f_8_105, Mh_y, Mh_1, Mh_s1, Mh_2, Mh_s2, Mh_3, Mh_s3, Mh_4, Mh_s4, Mh_5, Mh_s5, Mh_6, Mh_s6, Mh_7, Mh_s7, Mh_8, Mh_s8, Mh_9, Mh_s9, Mh_10, Mh_s10, Mh_11, Mh_s11, Mh_12, Mh_s12, Mh_13, Mh_s13, Mh_14, Mh_s14, Mh_15, Mh_s15, Mh_16, Mh_s16, Mh_17, Mh_s17, Mh_18, Mh_s18, Mh_19, Mh_s19, Mh_20, Mh_s20, Mh_21, Mh_s21, Mh_22, Mh_s22, Mh_23, Mh_s23, Mh_24, Mh_s24, Mh_p]
  refine q_c0 (Nat.le_refl _) (Nat.le_refl _) ?_
  refine c_Mo_need rfl ?_
  simp -implicitDefEqProofs only [s_go, s_nil, s_cons, q_ins, s_op, s_i, s_j, s_a, s_v, s_li, s_lj, s_la, s_liO, s_ljO, s_laO, q_get, q_p1, q_p2, s_n2i, s_n2r, s_n2l, s_n2n, q_pad, q_ar, s_ob, s_obO, q_nth, s_ri, s_riO, s_rb, s_rbO, s_rzO, s_rl, s_rlO, s_rq, s_rqO, s_ry, s_ryO, s_dn, s_tl, s_tn, s_ap, s_an, s_ci, s_cr, s_ni, s_n0, s_n1, q_ags, q_cat, List.contains_nil, List.contains_cons, Nat.reduceBEq, Bool.or_false, Bool.false_or, Bool.true_or, Bool.false_eq_true, ↓reduceIte, Nat.le_refl, Nat.zero_le, true_and, and_true, Nat.reduceLeDiff, Nat.reduceAdd, Nat.add_zero, Nat.zero_add, List.length_cons, List.length_nil, List.set_cons_zero, List.set_cons_succ, Nat.reduceLT, s_fi, s_fl, s_fo, s_fa, s_f0, s_f1, s_set, s_ss, lg_cmp_ge, lg_cmp_le, lg_cmp_gt, lg_cmp_lt, lg_cmp_eq, s_brT, s_brF, s_10, w_Mo_readPart, r_Mo_readPart, l_Mo_readPart_0, l_Mo_readPart_45, l_Mo_readPart_46, l_Mo_readPart_115, l_Mo_readPart_116, l_Mo_readPart_131, l_Mo_readPart_132, l_Mo_readPart_148, l_Mo_readPart_149, l_Mo_readPart_181, l_Mo_readPart_184, l_Mo_readPart_206, l_Mo_readPart_209, l_Mo_readPart_246, l_Mo_readPart_247, l_Mo_readPart_297, l_Mo_readPart_300, l_Mo_readPart_317, l_Mo_readPart_332, l_Mo_readPart_348, l_Mo_readPart_373, l_Mo_readPart_374, l_Mo_readPart_399, l_Mo_readPart_400, l_Mo_readPart_446, l_Mo_readPart_450, l_Mo_readPart_472, l_Mo_readPart_473, l_Mo_readPart_501, l_Mo_readPart_503, f_8_247, kc_1, ty_8_30, f_8_47, kb_64, kb_16, kc_0, ml_8_109, w_Mo_need, f_8_50, f_8_53, f_8_56, ml_8_120, w_Mo_u16, kl_8_126, ml_8_175, w_Mo_glyphCount, kc_2, kl_8_139, ml_8_285, w_Mo_number, kl_8_205, kl_8_289, kl_8_151, kc_3, kb_6, kb_7, kc_4, f_8_71, ml_8_291, w_Mo_f16, ks_16384, f_8_80, f_8_74, f_8_77, f_8_62, f_8_65, f_8_68, kb_9, f_8_250, ty_8_31, f_8_59, kc_5, f_8_105, Mh_y, Mh_1, Mh_s1, Mh_2, Mh_s2, Mh_3, Mh_s3, Mh_4, Mh_s4, Mh_5, Mh_s5, Mh_6, Mh_s6, Mh_7, Mh_s7, Mh_8, Mh_s8, Mh_9, Mh_s9, Mh_10, Mh_s10, Mh_11, Mh_s11, Mh_12, Mh_s12, Mh_13, Mh_s13, Mh_14, Mh_s14, Mh_15, Mh_s15, Mh_16, Mh_s16, Mh_17, Mh_s17, Mh_18, Mh_s18, Mh_19, Mh_s19, Mh_20, Mh_s20, Mh_21, Mh_s21, Mh_22, Mh_s22, Mh_23, Mh_s23, Mh_24, Mh_s24, Mh_p, q_bt (show f < 2 ^ 31 by omega) (show (((3 : Int32) &&& 31).toBitVec.smod 32).toNat = 3 by decide), q_bt (show f < 2 ^ 31 by omega) (show (((6 : Int32) &&& 31).toBitVec.smod 32).toNat = 6 by decide), q_bt (show f < 2 ^ 31 by omega) (show (((7 : Int32) &&& 31).toBitVec.smod 32).toNat = 7 by decide), ec]
  refine ⟨fun c => ?_, fun c => ?_⟩
  · have c : CN f = 0 := by
      have := (nI_leI (b := 0) (by omega) (by omega)).mp c
      omega
    have k := K
    unfold rb at k
    rw [if_pos c, if_pos c] at k
    exact r300 (A := 16384) hd ht hf cl E hW hF hb hin hs k
  · have c : ¬ CN f = 0 := fun z => c (by rw [z]; decide)
    have k := K
    unfold rb at k
    rw [if_neg c, if_neg c] at k
    refine q_c0 (Nat.le_refl _) (Nat.le_refl _) ?_
    refine c_Mo_f16 (dd := dd) hd E hW hF hb hin hs (by omega) ?_
    simp -implicitDefEqProofs only [s_go, s_nil, s_cons, q_ins, s_op, s_i, s_j, s_a, s_v, s_li, s_lj, s_la, s_liO, s_ljO, s_laO, q_get, q_p1, q_p2, s_n2i, s_n2r, s_n2l, s_n2n, q_pad, q_ar, s_ob, s_obO, q_nth, s_ri, s_riO, s_rb, s_rbO, s_rzO, s_rl, s_rlO, s_rq, s_rqO, s_ry, s_ryO, s_dn, s_tl, s_tn, s_ap, s_an, s_ci, s_cr, s_ni, s_n0, s_n1, q_ags, q_cat, List.contains_nil, List.contains_cons, Nat.reduceBEq, Bool.or_false, Bool.false_or, Bool.true_or, Bool.false_eq_true, ↓reduceIte, Nat.le_refl, Nat.zero_le, true_and, and_true, Nat.reduceLeDiff, Nat.reduceAdd, Nat.add_zero, Nat.zero_add, List.length_cons, List.length_nil, List.set_cons_zero, List.set_cons_succ, Nat.reduceLT, s_fi, s_fl, s_fo, s_fa, s_f0, s_f1, s_set, s_ss, lg_cmp_ge, lg_cmp_le, lg_cmp_gt, lg_cmp_lt, lg_cmp_eq, s_brT, s_brF, s_10, w_Mo_readPart, r_Mo_readPart, l_Mo_readPart_0, l_Mo_readPart_45, l_Mo_readPart_46, l_Mo_readPart_115, l_Mo_readPart_116, l_Mo_readPart_131, l_Mo_readPart_132, l_Mo_readPart_148, l_Mo_readPart_149, l_Mo_readPart_181, l_Mo_readPart_184, l_Mo_readPart_206, l_Mo_readPart_209, l_Mo_readPart_246, l_Mo_readPart_247, l_Mo_readPart_297, l_Mo_readPart_300, l_Mo_readPart_317, l_Mo_readPart_332, l_Mo_readPart_348, l_Mo_readPart_373, l_Mo_readPart_374, l_Mo_readPart_399, l_Mo_readPart_400, l_Mo_readPart_446, l_Mo_readPart_450, l_Mo_readPart_472, l_Mo_readPart_473, l_Mo_readPart_501, l_Mo_readPart_503, f_8_247, kc_1, ty_8_30, f_8_47, kb_64, kb_16, kc_0, ml_8_109, w_Mo_need, f_8_50, f_8_53, f_8_56, ml_8_120, w_Mo_u16, kl_8_126, ml_8_175, w_Mo_glyphCount, kc_2, kl_8_139, ml_8_285, w_Mo_number, kl_8_205, kl_8_289, kl_8_151, kc_3, kb_6, kb_7, kc_4, f_8_71, ml_8_291, w_Mo_f16, ks_16384, f_8_80, f_8_74, f_8_77, f_8_62, f_8_65, f_8_68, kb_9, f_8_250, ty_8_31, f_8_59, kc_5, f_8_105, Mh_y, Mh_1, Mh_s1, Mh_2, Mh_s2, Mh_3, Mh_s3, Mh_4, Mh_s4, Mh_5, Mh_s5, Mh_6, Mh_s6, Mh_7, Mh_s7, Mh_8, Mh_s8, Mh_9, Mh_s9, Mh_10, Mh_s10, Mh_11, Mh_s11, Mh_12, Mh_s12, Mh_13, Mh_s13, Mh_14, Mh_s14, Mh_15, Mh_s15, Mh_16, Mh_s16, Mh_17, Mh_s17, Mh_18, Mh_s18, Mh_19, Mh_s19, Mh_20, Mh_s20, Mh_21, Mh_s21, Mh_22, Mh_s22, Mh_23, Mh_s23, Mh_24, Mh_s24, Mh_p]
    exact r300 hd ht hf cl E hW hF hb hin hs k
