/-! the reference: readFlags -/
/-- from a run's beginning: the flag is read, it stands t times more -/
theorem FS_run {F : Nat → Nat} {e p0 k fl p t : Nat} (h : FS F e p0 (k + 1) = some (t, fl, p)) : ∀ j, j ≤ t → FS F e p0 (k + 1 + j) = some (t - j, fl, p)
  | 0, _ => h
  | j + 1, hj => by
    have ih := FS_run h j (by omega)
    rw [show k + 1 + (j + 1) = k + 1 + j + 1 by omega]
    unfold FS
    rw [ih, show t - j = t - (j + 1) + 1 by omega]
theorem FL_run {F : Nat → Nat} {e p0 k fl p t : Nat} (h : FS F e p0 (k + 1) = some (t, fl, p)) {j : Nat} (hj : j ≤ t) : FL F e p0 (k + j) = fl := by
  have := FS_run h j hj
  unfold FL
  rw [show k + j + 1 = k + 1 + j by omega, this]
/-- what a run's beginning asks -/
def rn_t (F : Nat → Nat) (p : Nat) : Nat := if BT (F p) 3 then F (p + 1) else 0
def rn_p (F : Nat → Nat) (p : Nat) : Nat := if BT (F p) 3 then p + 2 else p + 1
theorem FS_one {F : Nat → Nat} {e p0 k fl p : Nat} (h : FS F e p0 k = some (0, fl, p)) : FS F e p0 (k + 1) = if rn_p F p ≤ e then some (rn_t F p, F p, rn_p F p) else none := by
  unfold FS rn_p rn_t
  rw [h]
  dsimp only
  by_cases c : BT (F p) 3
  · rw [if_pos c, if_pos c, if_pos c]
    by_cases c2 : p + 2 ≤ e
    · rw [if_pos c2, if_pos (by omega)]
    · rw [if_neg c2]
      split <;> rfl
  · rw [if_neg c, if_neg c, if_neg c]
/-- what readFlags leaves: the flags, the points' first bits; what it keeps -/
def RF_k (h h' : q_H) (y d : Nat) (fl : Nat → Nat) (k : Nat) : Prop := (∀ b, b ≠ y + 8 → b ≠ y + 10 → h' b = h b) ∧ (∀ j, j < 512 * d → ar h' (y + 8) j = ar h (y + 8) j) ∧ (∀ j, j < k → ar h' (y + 10) j = nI (fl j) ∧ ar h' (y + 8) (512 * d + j) = bI (decide (fl j % 2 = 1)))
theorem vp_nar3 (b : Bool) : vp_nar (q_kind 3) (bI b) = bI b := by cases b <;> rfl
-- the inner loop: a run's points
set_option maxRecDepth 100000 in
set_option maxHeartbeats 4000000 in
theorem i_Mo_readFlags {G : q_G} {l : Launch} {dd y n d k f N tt w ln a : Nat} {fa si fo wi of_ pr le : Int32} {fl : Nat → Nat} {h0 : q_H} {Q : q_P} (hd : d ≤ 5) (hN : k + tt ≤ 256) (hf : f < 256) (hfl : ∀ j, k ≤ j → j < k + tt → fl j = f)
    (kk : ∀ h, MoE h y → RF_k h0 h y d fl (k + tt) → q_Z G l M_Mo_readFlags dd 0 0 Q 158 [some (.ref y), some (.int (nI w)), some (.int (nI ln)), none, none, some (.int (nI N)), some (.int (nI d)), some (.long (lN a)), none, some (.int (nI k)), some (.int (nI f)), none, some (.int (nI tt)), none] [] (Mh h y fa si fo wi of_ (bI false) pr le) n 0 0) :
    ∀ (r i : Nat) (h : q_H), i + r = tt → MoE h y → RF_k h0 h y d fl (k + i) → q_Z G l M_Mo_readFlags dd 0 0 Q 96 [some (.ref y), some (.int (nI w)), some (.int (nI ln)), none, none, some (.int (nI N)), some (.int (nI d)), some (.long (lN a)), none, some (.int (nI k)), some (.int (nI f)), none, some (.int (nI tt)), some (.int (nI i))] [] (Mh h y fa si fo wi of_ (bI false) pr le) n 0 0 := by
  intro r
  induction r with
  | zero =>
    intro i h hi E K
    have e : i = tt := by omega
    subst e
    refine q_at o_Mo_readFlags [96, 158] 20 l_Mo_readFlags_96 ?_
    simp -implicitDefEqProofs only [s_go, s_nil, s_cons, q_ins, s_op, s_i, s_j, s_a, s_v, s_li, s_lj, s_la, s_liO, s_ljO, s_laO, q_get, q_p1, q_p2, s_n2i, s_n2r, s_n2l, s_n2n, q_pad, q_ar, s_ob, s_obO, q_nth, s_ri, s_riO, s_rb, s_rbO, s_rzO, s_rl, s_rlO, s_rq, s_rqO, s_ry, s_ryO, s_dn, s_tl, s_tn, s_ap, s_an, s_ci, s_cr, s_ni, s_n0, s_n1, q_ags, q_cat, List.contains_nil, List.contains_cons, Nat.reduceBEq, Bool.or_false, Bool.false_or, Bool.true_or, Bool.false_eq_true, ↓reduceIte, Nat.le_refl, Nat.zero_le, true_and, and_true, Nat.reduceLeDiff, Nat.reduceAdd, Nat.add_zero, Nat.zero_add, List.length_cons, List.length_nil, List.set_cons_zero, List.set_cons_succ, Nat.reduceLT, s_fi, s_fl, s_fo, s_fa, s_f0, s_f1, s_set, s_ss, lg_cmp_ge, lg_cmp_le, lg_cmp_gt, lg_cmp_lt, lg_cmp_eq, s_brT, s_brF, s_10, w_Mo_readFlags, r_Mo_readFlags, l_Mo_readFlags_0, l_Mo_readFlags_6, l_Mo_readFlags_60, l_Mo_readFlags_61, l_Mo_readFlags_89, l_Mo_readFlags_90, l_Mo_readFlags_96, l_Mo_readFlags_150, l_Mo_readFlags_151, l_Mo_readFlags_158, l_Mo_readFlags_168, kc_0, f_8_105, ml_8_116, w_Mo_u8, kc_3, kc_1, kj_1, ml_8_109, w_Mo_need, f_8_38, f_8_31, ks_512, kc_2, Mh_y, Mh_1, Mh_s1, Mh_2, Mh_s2, Mh_3, Mh_s3, Mh_4, Mh_s4, Mh_5, Mh_s5, Mh_6, Mh_s6, Mh_7, Mh_s7, Mh_8, Mh_s8, Mh_9, Mh_s9, Mh_10, Mh_s10, Mh_11, Mh_s11, Mh_12, Mh_s12, Mh_13, Mh_s13, Mh_14, Mh_s14, Mh_15, Mh_s15, Mh_16, Mh_s16, Mh_17, Mh_s17, Mh_18, Mh_s18, Mh_19, Mh_s19, Mh_20, Mh_s20, Mh_21, Mh_s21, Mh_22, Mh_s22, Mh_23, Mh_s23, Mh_24, Mh_s24, Mh_p, show (nI i ≤ nI i) = True from eq_true (nI_le (by omega) (by omega))]
    exact q_wk (kk h E K) ⟨rfl, rfl, rfl, rfl, rfl, rfl, rfl, rfl, rfl, trivial⟩
  | succ r ih =>
    intro i h hi E K
    obtain ⟨g8, e8⟩ := E 8 (by omega) (by omega)
    obtain ⟨g10, e10⟩ := E 10 (by omega) (by omega)
    have e8 : h (y + 8) = some (.inl (3, 3072, .inl g8)) := e8
    have e10 : h (y + 10) = some (.inl (0, 256, .inl g10)) := e10
    have n1 : wr h (y + 10) (k + i) (nI f) (y + 8) = some (.inl (3, 3072, .inl g8)) := (wr_o (by omega)).trans e8
    have J : ∀ so : Bool, so = decide (f % 2 = 1) → q_Z G l M_Mo_readFlags dd 0 0 Q 151 [some (.ref y), some (.int (nI w)), some (.int (nI ln)), none, none, some (.int (nI N)), some (.int (nI d)), some (.long (lN a)), none, some (.int (nI k)), some (.int (nI f)), none, some (.int (nI tt)), some (.int (nI i))] [.int (bI so), .int (nI (512 * d + k + i)), .ref (y + 8)] (Mh (wr h (y + 10) (k + i) (nI f)) y fa si fo wi of_ (bI false) pr le) n 0 0 := by
      intro so hso
      refine q_at o_Mo_readFlags [96] 20 l_Mo_readFlags_151 ?_
      simp -implicitDefEqProofs only [s_go, s_nil, s_cons, q_ins, s_op, s_i, s_j, s_a, s_v, s_li, s_lj, s_la, s_liO, s_ljO, s_laO, q_get, q_p1, q_p2, s_n2i, s_n2r, s_n2l, s_n2n, q_pad, q_ar, s_ob, s_obO, q_nth, s_ri, s_riO, s_rb, s_rbO, s_rzO, s_rl, s_rlO, s_rq, s_rqO, s_ry, s_ryO, s_dn, s_tl, s_tn, s_ap, s_an, s_ci, s_cr, s_ni, s_n0, s_n1, q_ags, q_cat, List.contains_nil, List.contains_cons, Nat.reduceBEq, Bool.or_false, Bool.false_or, Bool.true_or, Bool.false_eq_true, ↓reduceIte, Nat.le_refl, Nat.zero_le, true_and, and_true, Nat.reduceLeDiff, Nat.reduceAdd, Nat.add_zero, Nat.zero_add, List.length_cons, List.length_nil, List.set_cons_zero, List.set_cons_succ, Nat.reduceLT, s_fi, s_fl, s_fo, s_fa, s_f0, s_f1, s_set, s_ss, lg_cmp_ge, lg_cmp_le, lg_cmp_gt, lg_cmp_lt, lg_cmp_eq, s_brT, s_brF, s_10, w_Mo_readFlags, r_Mo_readFlags, l_Mo_readFlags_0, l_Mo_readFlags_6, l_Mo_readFlags_60, l_Mo_readFlags_61, l_Mo_readFlags_89, l_Mo_readFlags_90, l_Mo_readFlags_96, l_Mo_readFlags_150, l_Mo_readFlags_151, l_Mo_readFlags_158, l_Mo_readFlags_168, kc_0, f_8_105, ml_8_116, w_Mo_u8, kc_3, kc_1, kj_1, ml_8_109, w_Mo_need, f_8_38, f_8_31, ks_512, kc_2, Mh_y, Mh_1, Mh_s1, Mh_2, Mh_s2, Mh_3, Mh_s3, Mh_4, Mh_s4, Mh_5, Mh_s5, Mh_6, Mh_s6, Mh_7, Mh_s7, Mh_8, Mh_s8, Mh_9, Mh_s9, Mh_10, Mh_s10, Mh_11, Mh_s11, Mh_12, Mh_s12, Mh_13, Mh_s13, Mh_14, Mh_s14, Mh_15, Mh_s15, Mh_16, Mh_s16, Mh_17, Mh_s17, Mh_18, Mh_s18, Mh_19, Mh_s19, Mh_20, Mh_s20, Mh_21, Mh_s21, Mh_22, Mh_s22, Mh_23, Mh_s23, Mh_24, Mh_s24, Mh_p, n1, vp_nar3, nI_1, nI_clamp (show 512 * d + k + i < 2 ^ 31 by omega), wr_of n1]
      refine ⟨vp_in_nI (by omega) (by omega), ?_⟩
      refine ih (i + 1) _ (by omega) E.up.up ⟨fun b b1 b2 => ?_, fun j hj => ?_, fun j hj => ?_⟩
      · rw [wr_o b1, wr_o b2]
        exact K.1 b b1 b2
      · rw [wr_an (Or.inr (by omega)), wr_an (Or.inl (by omega))]
        exact K.2.1 j hj
      · rcases Nat.lt_or_ge j (k + i) with z | z
        · rw [wr_an (Or.inl (by omega)), wr_an (Or.inr (by omega)), wr_an (Or.inr (by omega)), wr_an (Or.inl (by omega))]
          exact K.2.2 j z
        · have : j = k + i := by omega
          subst this
          rw [wr_an (Or.inl (by omega)), E.w (by omega) (by omega), ← Nat.add_assoc, E.up.w (by omega) (by omega), hfl _ (by omega) (by omega), hso]
          exact ⟨rfl, rfl⟩
    refine q_at o_Mo_readFlags [96, 151] 20 l_Mo_readFlags_96 ?_
    simp -implicitDefEqProofs only [s_go, s_nil, s_cons, q_ins, s_op, s_i, s_j, s_a, s_v, s_li, s_lj, s_la, s_liO, s_ljO, s_laO, q_get, q_p1, q_p2, s_n2i, s_n2r, s_n2l, s_n2n, q_pad, q_ar, s_ob, s_obO, q_nth, s_ri, s_riO, s_rb, s_rbO, s_rzO, s_rl, s_rlO, s_rq, s_rqO, s_ry, s_ryO, s_dn, s_tl, s_tn, s_ap, s_an, s_ci, s_cr, s_ni, s_n0, s_n1, q_ags, q_cat, List.contains_nil, List.contains_cons, Nat.reduceBEq, Bool.or_false, Bool.false_or, Bool.true_or, Bool.false_eq_true, ↓reduceIte, Nat.le_refl, Nat.zero_le, true_and, and_true, Nat.reduceLeDiff, Nat.reduceAdd, Nat.add_zero, Nat.zero_add, List.length_cons, List.length_nil, List.set_cons_zero, List.set_cons_succ, Nat.reduceLT, s_fi, s_fl, s_fo, s_fa, s_f0, s_f1, s_set, s_ss, lg_cmp_ge, lg_cmp_le, lg_cmp_gt, lg_cmp_lt, lg_cmp_eq, s_brT, s_brF, s_10, w_Mo_readFlags, r_Mo_readFlags, l_Mo_readFlags_0, l_Mo_readFlags_6, l_Mo_readFlags_60, l_Mo_readFlags_61, l_Mo_readFlags_89, l_Mo_readFlags_90, l_Mo_readFlags_96, l_Mo_readFlags_150, l_Mo_readFlags_151, l_Mo_readFlags_158, l_Mo_readFlags_168, kc_0, f_8_105, ml_8_116, w_Mo_u8, kc_3, kc_1, kj_1, ml_8_109, w_Mo_need, f_8_38, f_8_31, ks_512, kc_2, Mh_y, Mh_1, Mh_s1, Mh_2, Mh_s2, Mh_3, Mh_s3, Mh_4, Mh_s4, Mh_5, Mh_s5, Mh_6, Mh_s6, Mh_7, Mh_s7, Mh_8, Mh_s8, Mh_9, Mh_s9, Mh_10, Mh_s10, Mh_11, Mh_s11, Mh_12, Mh_s12, Mh_13, Mh_s13, Mh_14, Mh_s14, Mh_15, Mh_s15, Mh_16, Mh_s16, Mh_17, Mh_s17, Mh_18, Mh_s18, Mh_19, Mh_s19, Mh_20, Mh_s20, Mh_21, Mh_s21, Mh_22, Mh_s22, Mh_23, Mh_s23, Mh_24, Mh_s24, Mh_p, show (nI tt ≤ nI i) = False from eq_false (fun c => absurd ((nI_leI (by omega) (by omega)).mp c) (by omega)), bI_0, eq_self, e10, nI_add, nI_clamp (show k + i < 2 ^ 31 by omega), wr_of e10, show (512 : Int32) * nI d = nI (512 * d) from pk_mul 512 d, show nI f - nI f / 2 * 2 = nI (f % 2) from q_rem2 (by omega)]
    refine ⟨vp_in_nI (by omega) (by omega), by decide, ⟨fun c => J true ?_, fun c => J false ?_⟩⟩
    · rw [decide_eq_true ((nI_inj (b := 1) (by omega) (by omega)).mp c)]
    · rw [decide_eq_false (fun z => c (by rw [z]; rfl))]
theorem q_bt {v k : Nat} {s : Int32} (hv : v < 2 ^ 31) (hs : ((s &&& 31).toBitVec.smod 32).toNat = k) : (nI v >>> (s &&& 31)) &&& 1 = nI (v / 2 ^ k % 2) := by
  rw [pk_shrN hv (s &&& 31) k hs]
  exact pk_andN (by have := Nat.div_le_self v (2 ^ k); omega) 1 (by decide)
-- bad: out of both loops
set_option maxRecDepth 100000 in
set_option maxHeartbeats 4000000 in
theorem w_Mo_readFlagsB {G : q_G} {l : Launch} {dd y n : Nat} {fa si fo wi of_ pr le k N : Int32} {v : Int64} {x1 x2 x3 x4 x6 x8 x10 x11 x12 x13 : Option Value} {h : q_H} {Q : q_P} (hq : Q (some (.long v)) (Mh h y fa si fo wi of_ (bI true) pr le) n) :
    q_Z G l M_Mo_readFlags dd 0 0 Q 6 [some (.ref y), x1, x2, x3, x4, some (.int N), x6, some (.long v), x8, some (.int k), x10, x11, x12, x13] [] (Mh h y fa si fo wi of_ (bI true) pr le) n 0 0 := by
  refine q_at o_Mo_readFlags [6, 61] 20 l_Mo_readFlags_6 ?_
  simp -implicitDefEqProofs only [s_go, s_nil, s_cons, q_ins, s_op, s_i, s_j, s_a, s_v, s_li, s_lj, s_la, s_liO, s_ljO, s_laO, q_get, q_p1, q_p2, s_n2i, s_n2r, s_n2l, s_n2n, q_pad, q_ar, s_ob, s_obO, q_nth, s_ri, s_riO, s_rb, s_rbO, s_rzO, s_rl, s_rlO, s_rq, s_rqO, s_ry, s_ryO, s_dn, s_tl, s_tn, s_ap, s_an, s_ci, s_cr, s_ni, s_n0, s_n1, q_ags, q_cat, List.contains_nil, List.contains_cons, Nat.reduceBEq, Bool.or_false, Bool.false_or, Bool.true_or, Bool.false_eq_true, ↓reduceIte, Nat.le_refl, Nat.zero_le, true_and, and_true, Nat.reduceLeDiff, Nat.reduceAdd, Nat.add_zero, Nat.zero_add, List.length_cons, List.length_nil, List.set_cons_zero, List.set_cons_succ, Nat.reduceLT, s_fi, s_fl, s_fo, s_fa, s_f0, s_f1, s_set, s_ss, lg_cmp_ge, lg_cmp_le, lg_cmp_gt, lg_cmp_lt, lg_cmp_eq, s_brT, s_brF, s_10, w_Mo_readFlags, r_Mo_readFlags, l_Mo_readFlags_0, l_Mo_readFlags_6, l_Mo_readFlags_60, l_Mo_readFlags_61, l_Mo_readFlags_89, l_Mo_readFlags_90, l_Mo_readFlags_96, l_Mo_readFlags_150, l_Mo_readFlags_151, l_Mo_readFlags_158, l_Mo_readFlags_168, kc_0, f_8_105, ml_8_116, w_Mo_u8, kc_3, kc_1, kj_1, ml_8_109, w_Mo_need, f_8_38, f_8_31, ks_512, kc_2, Mh_y, Mh_1, Mh_s1, Mh_2, Mh_s2, Mh_3, Mh_s3, Mh_4, Mh_s4, Mh_5, Mh_s5, Mh_6, Mh_s6, Mh_7, Mh_s7, Mh_8, Mh_s8, Mh_9, Mh_s9, Mh_10, Mh_s10, Mh_11, Mh_s11, Mh_12, Mh_s12, Mh_13, Mh_s13, Mh_14, Mh_s14, Mh_15, Mh_s15, Mh_16, Mh_s16, Mh_17, Mh_s17, Mh_18, Mh_s18, Mh_19, Mh_s19, Mh_20, Mh_s20, Mh_21, Mh_s21, Mh_22, Mh_s22, Mh_23, Mh_s23, Mh_24, Mh_s24, Mh_p, bI_0, reduceCtorEq]
  exact ⟨fun _ => hq, fun _ => hq⟩
set_option maxRecDepth 100000 in
set_option maxHeartbeats 4000000 in
theorem x_Mo_readFlags {G : q_G} {l : Launch} {dd y n : Nat} {fa si fo wi of_ pr le k N tt : Int32} {v : Int64} {x1 x2 x6 x11 f : Int32} {h : q_H} {Q : q_P} (hq : Q (some (.long v)) (Mh h y fa si fo wi of_ (bI true) pr le) n) :
    q_Z G l M_Mo_readFlags dd 0 0 Q 96 [some (.ref y), some (.int x1), some (.int x2), none, none, some (.int N), some (.int x6), some (.long v), none, some (.int k), some (.int f), some (.int x11), some (.int tt), some (.int 0)] [] (Mh h y fa si fo wi of_ (bI true) pr le) n 0 0 := by
  refine q_at o_Mo_readFlags [6, 96, 151] 20 l_Mo_readFlags_96 ?_
  simp -implicitDefEqProofs only [s_go, s_nil, s_cons, q_ins, s_op, s_i, s_j, s_a, s_v, s_li, s_lj, s_la, s_liO, s_ljO, s_laO, q_get, q_p1, q_p2, s_n2i, s_n2r, s_n2l, s_n2n, q_pad, q_ar, s_ob, s_obO, q_nth, s_ri, s_riO, s_rb, s_rbO, s_rzO, s_rl, s_rlO, s_rq, s_rqO, s_ry, s_ryO, s_dn, s_tl, s_tn, s_ap, s_an, s_ci, s_cr, s_ni, s_n0, s_n1, q_ags, q_cat, List.contains_nil, List.contains_cons, Nat.reduceBEq, Bool.or_false, Bool.false_or, Bool.true_or, Bool.false_eq_true, ↓reduceIte, Nat.le_refl, Nat.zero_le, true_and, and_true, Nat.reduceLeDiff, Nat.reduceAdd, Nat.add_zero, Nat.zero_add, List.length_cons, List.length_nil, List.set_cons_zero, List.set_cons_succ, Nat.reduceLT, s_fi, s_fl, s_fo, s_fa, s_f0, s_f1, s_set, s_ss, lg_cmp_ge, lg_cmp_le, lg_cmp_gt, lg_cmp_lt, lg_cmp_eq, s_brT, s_brF, s_10, w_Mo_readFlags, r_Mo_readFlags, l_Mo_readFlags_0, l_Mo_readFlags_6, l_Mo_readFlags_60, l_Mo_readFlags_61, l_Mo_readFlags_89, l_Mo_readFlags_90, l_Mo_readFlags_96, l_Mo_readFlags_150, l_Mo_readFlags_151, l_Mo_readFlags_158, l_Mo_readFlags_168, kc_0, f_8_105, ml_8_116, w_Mo_u8, kc_3, kc_1, kj_1, ml_8_109, w_Mo_need, f_8_38, f_8_31, ks_512, kc_2, Mh_y, Mh_1, Mh_s1, Mh_2, Mh_s2, Mh_3, Mh_s3, Mh_4, Mh_s4, Mh_5, Mh_s5, Mh_6, Mh_s6, Mh_7, Mh_s7, Mh_8, Mh_s8, Mh_9, Mh_s9, Mh_10, Mh_s10, Mh_11, Mh_s11, Mh_12, Mh_s12, Mh_13, Mh_s13, Mh_14, Mh_s14, Mh_15, Mh_s15, Mh_16, Mh_s16, Mh_17, Mh_s17, Mh_18, Mh_s18, Mh_19, Mh_s19, Mh_20, Mh_s20, Mh_21, Mh_s21, Mh_22, Mh_s22, Mh_23, Mh_s23, Mh_24, Mh_s24, Mh_p, bI_0, reduceCtorEq]
  exact ⟨fun _ => w_Mo_readFlagsB hq, fun _ => w_Mo_readFlagsB hq⟩
set_option maxRecDepth 100000 in
set_option maxHeartbeats 4000000 in
theorem y_Mo_readFlags {G : q_G} {l : Launch} {dd y n d w ln a0 a k f ag t N : Nat} {fa si fo wi of_ pr le : Int32} {bb : Bool} {fl : Nat → Nat} {h0 h : q_H} {Q : q_P} (hd : d ≤ 5) (hN : N ≤ 256) (hk : k < N) (hf : f < 256) (ht : t < 256) (ha : a < 100000) (hag : ag ≤ 1) (E : MoE h y) (K : RF_k h0 h y d fl k)
    (i0 : (bb = true ∨ N < k + 1 + t) → ∀ v, Q (some (.long v)) (Mh h y fa si fo wi of_ (bI true) pr le) n)
    (i1 : bb = false → k + 1 + t ≤ N → (∀ j, k ≤ j → j < k + (1 + t) → fl j = f) ∧ ∀ h', MoE h' y → RF_k h0 h' y d fl (k + (1 + t)) → q_Z G l M_Mo_readFlags (dd + 2) 0 0 Q 6 [some (.ref y), some (.int (nI w)), some (.int (nI ln)), none, none, some (.int (nI N)), some (.int (nI d)), some (.long (lN (a + 1 + ag))), none, some (.int (nI (k + (1 + t)))), none, none, none, none] [] (Mh h' y fa si fo wi of_ (bI false) pr le) n 0 0) :
    q_Z G l M_Mo_readFlags (dd + 2) 0 0 Q 61 [some (.ref y), some (.int (nI w)), some (.int (nI ln)), none, none, some (.int (nI N)), some (.int (nI d)), some (.long (lN a)), none, some (.int (nI k)), some (.int (nI f)), some (.int (nI ag)), none, none] [.int (nI t), .int 1] (Mh h y fa si fo wi of_ (bI bb) pr le) n 0 0 := by
  have J : ∀ so : Bool, (so = true ↔ k + 1 + t ≤ N) → q_Z G l M_Mo_readFlags (dd + 2) 0 0 Q 90 [some (.ref y), some (.int (nI w)), some (.int (nI ln)), none, none, some (.int (nI N)), some (.int (nI d)), some (.long (lN (a + 1 + ag))), none, some (.int (nI k)), some (.int (nI f)), some (.int (nI ag)), some (.int (nI (1 + t))), none] [.int (bI so), .ref y] (Mh h y fa si fo wi of_ (bI bb) pr le) n 0 0 := by
    intro so e1
    refine q_at o_Mo_readFlags [96] 20 l_Mo_readFlags_90 ?_
    simp -implicitDefEqProofs only [s_go, s_nil, s_cons, q_ins, s_op, s_i, s_j, s_a, s_v, s_li, s_lj, s_la, s_liO, s_ljO, s_laO, q_get, q_p1, q_p2, s_n2i, s_n2r, s_n2l, s_n2n, q_pad, q_ar, s_ob, s_obO, q_nth, s_ri, s_riO, s_rb, s_rbO, s_rzO, s_rl, s_rlO, s_rq, s_rqO, s_ry, s_ryO, s_dn, s_tl, s_tn, s_ap, s_an, s_ci, s_cr, s_ni, s_n0, s_n1, q_ags, q_cat, List.contains_nil, List.contains_cons, Nat.reduceBEq, Bool.or_false, Bool.false_or, Bool.true_or, Bool.false_eq_true, ↓reduceIte, Nat.le_refl, Nat.zero_le, true_and, and_true, Nat.reduceLeDiff, Nat.reduceAdd, Nat.add_zero, Nat.zero_add, List.length_cons, List.length_nil, List.set_cons_zero, List.set_cons_succ, Nat.reduceLT, s_fi, s_fl, s_fo, s_fa, s_f0, s_f1, s_set, s_ss, lg_cmp_ge, lg_cmp_le, lg_cmp_gt, lg_cmp_lt, lg_cmp_eq, s_brT, s_brF, s_10, w_Mo_readFlags, r_Mo_readFlags, l_Mo_readFlags_0, l_Mo_readFlags_6, l_Mo_readFlags_60, l_Mo_readFlags_61, l_Mo_readFlags_89, l_Mo_readFlags_90, l_Mo_readFlags_96, l_Mo_readFlags_150, l_Mo_readFlags_151, l_Mo_readFlags_158, l_Mo_readFlags_168, kc_0, f_8_105, ml_8_116, w_Mo_u8, kc_3, kc_1, kj_1, ml_8_109, w_Mo_need, f_8_38, f_8_31, ks_512, kc_2, Mh_y, Mh_1, Mh_s1, Mh_2, Mh_s2, Mh_3, Mh_s3, Mh_4, Mh_s4, Mh_5, Mh_s5, Mh_6, Mh_s6, Mh_7, Mh_s7, Mh_8, Mh_s8, Mh_9, Mh_s9, Mh_10, Mh_s10, Mh_11, Mh_s11, Mh_12, Mh_s12, Mh_13, Mh_s13, Mh_14, Mh_s14, Mh_15, Mh_s15, Mh_16, Mh_s16, Mh_17, Mh_s17, Mh_18, Mh_s18, Mh_19, Mh_s19, Mh_20, Mh_s20, Mh_21, Mh_s21, Mh_22, Mh_s22, Mh_23, Mh_s23, Mh_24, Mh_s24, Mh_p]
    refine q_c0 (Nat.le_refl _) (Nat.le_refl _) ?_
    refine c_Mo_need rfl ?_
    simp -implicitDefEqProofs only [s_go, s_nil, s_cons, q_ins, s_op, s_i, s_j, s_a, s_v, s_li, s_lj, s_la, s_liO, s_ljO, s_laO, q_get, q_p1, q_p2, s_n2i, s_n2r, s_n2l, s_n2n, q_pad, q_ar, s_ob, s_obO, q_nth, s_ri, s_riO, s_rb, s_rbO, s_rzO, s_rl, s_rlO, s_rq, s_rqO, s_ry, s_ryO, s_dn, s_tl, s_tn, s_ap, s_an, s_ci, s_cr, s_ni, s_n0, s_n1, q_ags, q_cat, List.contains_nil, List.contains_cons, Nat.reduceBEq, Bool.or_false, Bool.false_or, Bool.true_or, Bool.false_eq_true, ↓reduceIte, Nat.le_refl, Nat.zero_le, true_and, and_true, Nat.reduceLeDiff, Nat.reduceAdd, Nat.add_zero, Nat.zero_add, List.length_cons, List.length_nil, List.set_cons_zero, List.set_cons_succ, Nat.reduceLT, s_fi, s_fl, s_fo, s_fa, s_f0, s_f1, s_set, s_ss, lg_cmp_ge, lg_cmp_le, lg_cmp_gt, lg_cmp_lt, lg_cmp_eq, s_brT, s_brF, s_10, w_Mo_readFlags, r_Mo_readFlags, l_Mo_readFlags_0, l_Mo_readFlags_6, l_Mo_readFlags_60, l_Mo_readFlags_61, l_Mo_readFlags_89, l_Mo_readFlags_90, l_Mo_readFlags_96, l_Mo_readFlags_150, l_Mo_readFlags_151, l_Mo_readFlags_158, l_Mo_readFlags_168, kc_0, f_8_105, ml_8_116, w_Mo_u8, kc_3, kc_1, kj_1, ml_8_109, w_Mo_need, f_8_38, f_8_31, ks_512, kc_2, Mh_y, Mh_1, Mh_s1, Mh_2, Mh_s2, Mh_3, Mh_s3, Mh_4, Mh_s4, Mh_5, Mh_s5, Mh_6, Mh_s6, Mh_7, Mh_s7, Mh_8, Mh_s8, Mh_9, Mh_s9, Mh_10, Mh_s10, Mh_11, Mh_s11, Mh_12, Mh_s12, Mh_13, Mh_s13, Mh_14, Mh_s14, Mh_15, Mh_s15, Mh_16, Mh_s16, Mh_17, Mh_s17, Mh_18, Mh_s18, Mh_19, Mh_s19, Mh_20, Mh_s20, Mh_21, Mh_s21, Mh_22, Mh_s22, Mh_23, Mh_s23, Mh_24, Mh_s24, Mh_p]
    cases hb : (bb || !so) with
    | true =>
      refine x_Mo_readFlags (i0 ?_ _)
      rw [Bool.or_eq_true] at hb
      rcases hb with z | z
      · exact Or.inl z
      · right
        rcases Nat.lt_or_ge N (k + 1 + t) with c | c
        · exact c
        · rw [e1.mpr c] at z; cases z
    | false =>
      rw [Bool.or_eq_false_iff, Bool.not_eq_false', e1] at hb
      obtain ⟨j1, j2⟩ := i1 hb.1 hb.2
      refine q_wk (i_Mo_readFlags (tt := 1 + t) hd (by omega) hf j1 (fun h' E' K' => ?_) (1 + t) 0 h (by omega) E K) ⟨rfl, rfl, rfl, rfl, rfl, rfl, rfl, rfl, rfl, rfl, trivial⟩
      refine q_at o_Mo_readFlags [6] 20 l_Mo_readFlags_158 ?_
      simp -implicitDefEqProofs only [s_go, s_nil, s_cons, q_ins, s_op, s_i, s_j, s_a, s_v, s_li, s_lj, s_la, s_liO, s_ljO, s_laO, q_get, q_p1, q_p2, s_n2i, s_n2r, s_n2l, s_n2n, q_pad, q_ar, s_ob, s_obO, q_nth, s_ri, s_riO, s_rb, s_rbO, s_rzO, s_rl, s_rlO, s_rq, s_rqO, s_ry, s_ryO, s_dn, s_tl, s_tn, s_ap, s_an, s_ci, s_cr, s_ni, s_n0, s_n1, q_ags, q_cat, List.contains_nil, List.contains_cons, Nat.reduceBEq, Bool.or_false, Bool.false_or, Bool.true_or, Bool.false_eq_true, ↓reduceIte, Nat.le_refl, Nat.zero_le, true_and, and_true, Nat.reduceLeDiff, Nat.reduceAdd, Nat.add_zero, Nat.zero_add, List.length_cons, List.length_nil, List.set_cons_zero, List.set_cons_succ, Nat.reduceLT, s_fi, s_fl, s_fo, s_fa, s_f0, s_f1, s_set, s_ss, lg_cmp_ge, lg_cmp_le, lg_cmp_gt, lg_cmp_lt, lg_cmp_eq, s_brT, s_brF, s_10, w_Mo_readFlags, r_Mo_readFlags, l_Mo_readFlags_0, l_Mo_readFlags_6, l_Mo_readFlags_60, l_Mo_readFlags_61, l_Mo_readFlags_89, l_Mo_readFlags_90, l_Mo_readFlags_96, l_Mo_readFlags_150, l_Mo_readFlags_151, l_Mo_readFlags_158, l_Mo_readFlags_168, kc_0, f_8_105, ml_8_116, w_Mo_u8, kc_3, kc_1, kj_1, ml_8_109, w_Mo_need, f_8_38, f_8_31, ks_512, kc_2, Mh_y, Mh_1, Mh_s1, Mh_2, Mh_s2, Mh_3, Mh_s3, Mh_4, Mh_s4, Mh_5, Mh_s5, Mh_6, Mh_s6, Mh_7, Mh_s7, Mh_8, Mh_s8, Mh_9, Mh_s9, Mh_10, Mh_s10, Mh_11, Mh_s11, Mh_12, Mh_s12, Mh_13, Mh_s13, Mh_14, Mh_s14, Mh_15, Mh_s15, Mh_16, Mh_s16, Mh_17, Mh_s17, Mh_18, Mh_s18, Mh_19, Mh_s19, Mh_20, Mh_s20, Mh_21, Mh_s21, Mh_22, Mh_s22, Mh_23, Mh_s23, Mh_24, Mh_s24, Mh_p, nI_add]
      exact q_wk (j2 h' E' K') ⟨rfl, rfl, rfl, rfl, rfl, rfl, rfl, trivial⟩
  refine q_at o_Mo_readFlags [90] 20 l_Mo_readFlags_61 ?_
  simp -implicitDefEqProofs only [s_go, s_nil, s_cons, q_ins, s_op, s_i, s_j, s_a, s_v, s_li, s_lj, s_la, s_liO, s_ljO, s_laO, q_get, q_p1, q_p2, s_n2i, s_n2r, s_n2l, s_n2n, q_pad, q_ar, s_ob, s_obO, q_nth, s_ri, s_riO, s_rb, s_rbO, s_rzO, s_rl, s_rlO, s_rq, s_rqO, s_ry, s_ryO, s_dn, s_tl, s_tn, s_ap, s_an, s_ci, s_cr, s_ni, s_n0, s_n1, q_ags, q_cat, List.contains_nil, List.contains_cons, Nat.reduceBEq, Bool.or_false, Bool.false_or, Bool.true_or, Bool.false_eq_true, ↓reduceIte, Nat.le_refl, Nat.zero_le, true_and, and_true, Nat.reduceLeDiff, Nat.reduceAdd, Nat.add_zero, Nat.zero_add, List.length_cons, List.length_nil, List.set_cons_zero, List.set_cons_succ, Nat.reduceLT, s_fi, s_fl, s_fo, s_fa, s_f0, s_f1, s_set, s_ss, lg_cmp_ge, lg_cmp_le, lg_cmp_gt, lg_cmp_lt, lg_cmp_eq, s_brT, s_brF, s_10, w_Mo_readFlags, r_Mo_readFlags, l_Mo_readFlags_0, l_Mo_readFlags_6, l_Mo_readFlags_60, l_Mo_readFlags_61, l_Mo_readFlags_89, l_Mo_readFlags_90, l_Mo_readFlags_96, l_Mo_readFlags_150, l_Mo_readFlags_151, l_Mo_readFlags_158, l_Mo_readFlags_168, kc_0, f_8_105, ml_8_116, w_Mo_u8, kc_3, kc_1, kj_1, ml_8_109, w_Mo_need, f_8_38, f_8_31, ks_512, kc_2, Mh_y, Mh_1, Mh_s1, Mh_2, Mh_s2, Mh_3, Mh_s3, Mh_4, Mh_s4, Mh_5, Mh_s5, Mh_6, Mh_s6, Mh_7, Mh_s7, Mh_8, Mh_s8, Mh_9, Mh_s9, Mh_10, Mh_s10, Mh_11, Mh_s11, Mh_12, Mh_s12, Mh_13, Mh_s13, Mh_14, Mh_s14, Mh_15, Mh_s15, Mh_16, Mh_s16, Mh_17, Mh_s17, Mh_18, Mh_s18, Mh_19, Mh_s19, Mh_20, Mh_s20, Mh_21, Mh_s21, Mh_22, Mh_s22, Mh_23, Mh_s23, Mh_24, Mh_s24, Mh_p, show (1 : Int32) + nI t = nI (1 + t) from nI_add 1 t, lN_1, nI_l (show ag < 2 ^ 31 by omega), lN_add, nI_add]
  refine ⟨fun c => J false ⟨fun z => (by cases z), fun z => ?_⟩, fun c => J true ⟨fun _ => ?_, fun _ => rfl⟩⟩
  · exact absurd ((nI_ltI (by omega) (by omega)).mp c) (by omega)
  · rcases Nat.lt_or_ge N (k + (1 + t)) with z | z
    · exact absurd ((nI_ltI (by omega) (by omega)).mpr z) c
    · omega
set_option maxRecDepth 100000 in
set_option maxHeartbeats 4000000 in
theorem z_Mo_readFlags {G : q_G} {l : Launch} {dd y n d w ln a0 N sz : Nat} {fa si fo wi of_ pr le : Int32} {F : Nat → Nat} {h0 : q_H} {Q : q_P} (hd : d ≤ 5) (hN : N ≤ 256) (hb : ∀ j, F j < 256) (hs : sz ≤ 16384) (hin : w + ln ≤ sz) (hF : MoF h0 y of_ F sz)
    (q1 : ∀ f a, FS F (w + ln) (w + a0) N = some (0, f, w + a) → a ≤ ln → ∀ h', MoE h' y → RF_k h0 h' y d (FL F (w + ln) (w + a0)) N → Q (some (.long (lN a))) (Mh h' y fa si fo wi of_ (bI false) pr le) n)
    (q0 : (∀ f p, FS F (w + ln) (w + a0) N ≠ some (0, f, p)) → ∀ h' v, MoE h' y → RF_k h0 h' y d (FL F (w + ln) (w + a0)) 0 → Q (some (.long v)) (Mh h' y fa si fo wi of_ (bI true) pr le) n) :
    ∀ (r k a fl : Nat) (h : q_H), k ≤ N → N ≤ k + r → a ≤ ln → FS F (w + ln) (w + a0) k = some (0, fl, w + a) → MoE h y → RF_k h0 h y d (FL F (w + ln) (w + a0)) k → q_Z G l M_Mo_readFlags (dd + 2) 0 0 Q 6 [some (.ref y), some (.int (nI w)), some (.int (nI ln)), none, none, some (.int (nI N)), some (.int (nI d)), some (.long (lN a)), none, some (.int (nI k)), none, none, none, none] [] (Mh h y fa si fo wi of_ (bI false) pr le) n 0 0 := by
  intro r
  induction r with
  | zero =>
    intro k a fl h hk hr ha hf E K
    have e : k = N := by omega
    subst e
    refine q_at o_Mo_readFlags [6] 20 l_Mo_readFlags_6 ?_
    simp -implicitDefEqProofs only [s_go, s_nil, s_cons, q_ins, s_op, s_i, s_j, s_a, s_v, s_li, s_lj, s_la, s_liO, s_ljO, s_laO, q_get, q_p1, q_p2, s_n2i, s_n2r, s_n2l, s_n2n, q_pad, q_ar, s_ob, s_obO, q_nth, s_ri, s_riO, s_rb, s_rbO, s_rzO, s_rl, s_rlO, s_rq, s_rqO, s_ry, s_ryO, s_dn, s_tl, s_tn, s_ap, s_an, s_ci, s_cr, s_ni, s_n0, s_n1, q_ags, q_cat, List.contains_nil, List.contains_cons, Nat.reduceBEq, Bool.or_false, Bool.false_or, Bool.true_or, Bool.false_eq_true, ↓reduceIte, Nat.le_refl, Nat.zero_le, true_and, and_true, Nat.reduceLeDiff, Nat.reduceAdd, Nat.add_zero, Nat.zero_add, List.length_cons, List.length_nil, List.set_cons_zero, List.set_cons_succ, Nat.reduceLT, s_fi, s_fl, s_fo, s_fa, s_f0, s_f1, s_set, s_ss, lg_cmp_ge, lg_cmp_le, lg_cmp_gt, lg_cmp_lt, lg_cmp_eq, s_brT, s_brF, s_10, w_Mo_readFlags, r_Mo_readFlags, l_Mo_readFlags_0, l_Mo_readFlags_6, l_Mo_readFlags_60, l_Mo_readFlags_61, l_Mo_readFlags_89, l_Mo_readFlags_90, l_Mo_readFlags_96, l_Mo_readFlags_150, l_Mo_readFlags_151, l_Mo_readFlags_158, l_Mo_readFlags_168, kc_0, f_8_105, ml_8_116, w_Mo_u8, kc_3, kc_1, kj_1, ml_8_109, w_Mo_need, f_8_38, f_8_31, ks_512, kc_2, Mh_y, Mh_1, Mh_s1, Mh_2, Mh_s2, Mh_3, Mh_s3, Mh_4, Mh_s4, Mh_5, Mh_s5, Mh_6, Mh_s6, Mh_7, Mh_s7, Mh_8, Mh_s8, Mh_9, Mh_s9, Mh_10, Mh_s10, Mh_11, Mh_s11, Mh_12, Mh_s12, Mh_13, Mh_s13, Mh_14, Mh_s14, Mh_15, Mh_s15, Mh_16, Mh_s16, Mh_17, Mh_s17, Mh_18, Mh_s18, Mh_19, Mh_s19, Mh_20, Mh_s20, Mh_21, Mh_s21, Mh_22, Mh_s22, Mh_23, Mh_s23, Mh_24, Mh_s24, Mh_p, show (nI k ≤ nI k) = True from eq_true (nI_le (by omega) (by omega))]
    exact q1 fl a hf ha h E K
  | succ r ih =>
    intro k a fl h hk hr ha hf E K
    rcases Nat.lt_or_ge k N with hlt | hge
    rotate_left
    · have e : k = N := by omega
      subst e
      refine q_at o_Mo_readFlags [6] 20 l_Mo_readFlags_6 ?_
      simp -implicitDefEqProofs only [s_go, s_nil, s_cons, q_ins, s_op, s_i, s_j, s_a, s_v, s_li, s_lj, s_la, s_liO, s_ljO, s_laO, q_get, q_p1, q_p2, s_n2i, s_n2r, s_n2l, s_n2n, q_pad, q_ar, s_ob, s_obO, q_nth, s_ri, s_riO, s_rb, s_rbO, s_rzO, s_rl, s_rlO, s_rq, s_rqO, s_ry, s_ryO, s_dn, s_tl, s_tn, s_ap, s_an, s_ci, s_cr, s_ni, s_n0, s_n1, q_ags, q_cat, List.contains_nil, List.contains_cons, Nat.reduceBEq, Bool.or_false, Bool.false_or, Bool.true_or, Bool.false_eq_true, ↓reduceIte, Nat.le_refl, Nat.zero_le, true_and, and_true, Nat.reduceLeDiff, Nat.reduceAdd, Nat.add_zero, Nat.zero_add, List.length_cons, List.length_nil, List.set_cons_zero, List.set_cons_succ, Nat.reduceLT, s_fi, s_fl, s_fo, s_fa, s_f0, s_f1, s_set, s_ss, lg_cmp_ge, lg_cmp_le, lg_cmp_gt, lg_cmp_lt, lg_cmp_eq, s_brT, s_brF, s_10, w_Mo_readFlags, r_Mo_readFlags, l_Mo_readFlags_0, l_Mo_readFlags_6, l_Mo_readFlags_60, l_Mo_readFlags_61, l_Mo_readFlags_89, l_Mo_readFlags_90, l_Mo_readFlags_96, l_Mo_readFlags_150, l_Mo_readFlags_151, l_Mo_readFlags_158, l_Mo_readFlags_168, kc_0, f_8_105, ml_8_116, w_Mo_u8, kc_3, kc_1, kj_1, ml_8_109, w_Mo_need, f_8_38, f_8_31, ks_512, kc_2, Mh_y, Mh_1, Mh_s1, Mh_2, Mh_s2, Mh_3, Mh_s3, Mh_4, Mh_s4, Mh_5, Mh_s5, Mh_6, Mh_s6, Mh_7, Mh_s7, Mh_8, Mh_s8, Mh_9, Mh_s9, Mh_10, Mh_s10, Mh_11, Mh_s11, Mh_12, Mh_s12, Mh_13, Mh_s13, Mh_14, Mh_s14, Mh_15, Mh_s15, Mh_16, Mh_s16, Mh_17, Mh_s17, Mh_18, Mh_s18, Mh_19, Mh_s19, Mh_20, Mh_s20, Mh_21, Mh_s21, Mh_22, Mh_s22, Mh_23, Mh_s23, Mh_24, Mh_s24, Mh_p, show (nI k ≤ nI k) = True from eq_true (nI_le (by omega) (by omega))]
      exact q1 fl a hf ha h E K
    have hFh : MoF h y of_ F sz := by
      rcases hF with ⟨o, g, e1, e2⟩ | ⟨o, g, e1, e2⟩
      · exact Or.inl ⟨o, g, (K.1 (y + 1) (by omega) (by omega)).trans e1, e2⟩
      · exact Or.inr ⟨o, g, (K.1 (y + 2) (by omega) (by omega)).trans e1, e2⟩
    have K0 : RF_k h0 h y d (FL F (w + ln) (w + a0)) 0 := ⟨K.1, K.2.1, fun j hj => absurd hj (by omega)⟩
    have one := FS_one hf
    have bad : FS F (w + ln) (w + a0) (k + 1) = none → ∀ f p, FS F (w + ln) (w + a0) N ≠ some (0, f, p) := by
      intro hn f p
      have := FS_none hn (N - (k + 1))
      rw [show k + 1 + (N - (k + 1)) = N by omega] at this
      rw [this]
      exact fun z => by cases z
    have b0 := U8_lt hb w ln a
    have b1 := U8_lt hb w ln (a + 1)
    refine q_at o_Mo_readFlags [61] 20 l_Mo_readFlags_6 ?_
    simp -implicitDefEqProofs only [s_go, s_nil, s_cons, q_ins, s_op, s_i, s_j, s_a, s_v, s_li, s_lj, s_la, s_liO, s_ljO, s_laO, q_get, q_p1, q_p2, s_n2i, s_n2r, s_n2l, s_n2n, q_pad, q_ar, s_ob, s_obO, q_nth, s_ri, s_riO, s_rb, s_rbO, s_rzO, s_rl, s_rlO, s_rq, s_rqO, s_ry, s_ryO, s_dn, s_tl, s_tn, s_ap, s_an, s_ci, s_cr, s_ni, s_n0, s_n1, q_ags, q_cat, List.contains_nil, List.contains_cons, Nat.reduceBEq, Bool.or_false, Bool.false_or, Bool.true_or, Bool.false_eq_true, ↓reduceIte, Nat.le_refl, Nat.zero_le, true_and, and_true, Nat.reduceLeDiff, Nat.reduceAdd, Nat.add_zero, Nat.zero_add, List.length_cons, List.length_nil, List.set_cons_zero, List.set_cons_succ, Nat.reduceLT, s_fi, s_fl, s_fo, s_fa, s_f0, s_f1, s_set, s_ss, lg_cmp_ge, lg_cmp_le, lg_cmp_gt, lg_cmp_lt, lg_cmp_eq, s_brT, s_brF, s_10, w_Mo_readFlags, r_Mo_readFlags, l_Mo_readFlags_0, l_Mo_readFlags_6, l_Mo_readFlags_60, l_Mo_readFlags_61, l_Mo_readFlags_89, l_Mo_readFlags_90, l_Mo_readFlags_96, l_Mo_readFlags_150, l_Mo_readFlags_151, l_Mo_readFlags_158, l_Mo_readFlags_168, kc_0, f_8_105, ml_8_116, w_Mo_u8, kc_3, kc_1, kj_1, ml_8_109, w_Mo_need, f_8_38, f_8_31, ks_512, kc_2, Mh_y, Mh_1, Mh_s1, Mh_2, Mh_s2, Mh_3, Mh_s3, Mh_4, Mh_s4, Mh_5, Mh_s5, Mh_6, Mh_s6, Mh_7, Mh_s7, Mh_8, Mh_s8, Mh_9, Mh_s9, Mh_10, Mh_s10, Mh_11, Mh_s11, Mh_12, Mh_s12, Mh_13, Mh_s13, Mh_14, Mh_s14, Mh_15, Mh_s15, Mh_16, Mh_s16, Mh_17, Mh_s17, Mh_18, Mh_s18, Mh_19, Mh_s19, Mh_20, Mh_s20, Mh_21, Mh_s21, Mh_22, Mh_s22, Mh_23, Mh_s23, Mh_24, Mh_s24, Mh_p, show (nI N ≤ nI k) = False from eq_false (fun c => absurd ((nI_leI (by omega) (by omega)).mp c) (by omega)), bI_0, eq_self, nI_l (show ln < 2 ^ 31 by omega)]
    refine q_c0 (Nat.le_refl _) (Nat.le_refl _) ?_
    refine c_Mo_u8 (d := dd) hFh hin hs (by omega) ?_
    rw [Bool.false_or]
    simp -implicitDefEqProofs only [s_go, s_nil, s_cons, q_ins, s_op, s_i, s_j, s_a, s_v, s_li, s_lj, s_la, s_liO, s_ljO, s_laO, q_get, q_p1, q_p2, s_n2i, s_n2r, s_n2l, s_n2n, q_pad, q_ar, s_ob, s_obO, q_nth, s_ri, s_riO, s_rb, s_rbO, s_rzO, s_rl, s_rlO, s_rq, s_rqO, s_ry, s_ryO, s_dn, s_tl, s_tn, s_ap, s_an, s_ci, s_cr, s_ni, s_n0, s_n1, q_ags, q_cat, List.contains_nil, List.contains_cons, Nat.reduceBEq, Bool.or_false, Bool.false_or, Bool.true_or, Bool.false_eq_true, ↓reduceIte, Nat.le_refl, Nat.zero_le, true_and, and_true, Nat.reduceLeDiff, Nat.reduceAdd, Nat.add_zero, Nat.zero_add, List.length_cons, List.length_nil, List.set_cons_zero, List.set_cons_succ, Nat.reduceLT, s_fi, s_fl, s_fo, s_fa, s_f0, s_f1, s_set, s_ss, lg_cmp_ge, lg_cmp_le, lg_cmp_gt, lg_cmp_lt, lg_cmp_eq, s_brT, s_brF, s_10, w_Mo_readFlags, r_Mo_readFlags, l_Mo_readFlags_0, l_Mo_readFlags_6, l_Mo_readFlags_60, l_Mo_readFlags_61, l_Mo_readFlags_89, l_Mo_readFlags_90, l_Mo_readFlags_96, l_Mo_readFlags_150, l_Mo_readFlags_151, l_Mo_readFlags_158, l_Mo_readFlags_168, kc_0, f_8_105, ml_8_116, w_Mo_u8, kc_3, kc_1, kj_1, ml_8_109, w_Mo_need, f_8_38, f_8_31, ks_512, kc_2, Mh_y, Mh_1, Mh_s1, Mh_2, Mh_s2, Mh_3, Mh_s3, Mh_4, Mh_s4, Mh_5, Mh_s5, Mh_6, Mh_s6, Mh_7, Mh_s7, Mh_8, Mh_s8, Mh_9, Mh_s9, Mh_10, Mh_s10, Mh_11, Mh_s11, Mh_12, Mh_s12, Mh_13, Mh_s13, Mh_14, Mh_s14, Mh_15, Mh_s15, Mh_16, Mh_s16, Mh_17, Mh_s17, Mh_18, Mh_s18, Mh_19, Mh_s19, Mh_20, Mh_s20, Mh_21, Mh_s21, Mh_22, Mh_s22, Mh_23, Mh_s23, Mh_24, Mh_s24, Mh_p, q_bt (show U8 F w ln a < 2 ^ 31 by omega) (show (((3 : Int32) &&& 31).toBitVec.smod 32).toNat = 3 by decide), nI_l (show ln < 2 ^ 31 by omega), lN_1]
    refine ⟨fun c => ?_, fun c => ?_⟩
    · have c : U8 F w ln a / 2 ^ 3 % 2 = 1 := (nI_inj (b := 1) (by omega) (by omega)).mp c
      have al : a < ln := by
        rcases Nat.lt_or_ge a ln with z | z
        · exact z
        · rw [U8_out z] at c; cases c
      rw [U8_in al] at c
      refine q_c0 (Nat.le_refl _) (Nat.le_refl _) ?_
      refine c_Mo_u8 (d := dd) hFh hin hs (by omega) ?_
      rw [decide_eq_false (show ¬ ln ≤ a by omega), Bool.false_or, U8_in al, show F (w + a) / 2 ^ 3 % 2 = 1 from c]
      simp -implicitDefEqProofs only [s_go, s_nil, s_cons, q_ins, s_op, s_i, s_j, s_a, s_v, s_li, s_lj, s_la, s_liO, s_ljO, s_laO, q_get, q_p1, q_p2, s_n2i, s_n2r, s_n2l, s_n2n, q_pad, q_ar, s_ob, s_obO, q_nth, s_ri, s_riO, s_rb, s_rbO, s_rzO, s_rl, s_rlO, s_rq, s_rqO, s_ry, s_ryO, s_dn, s_tl, s_tn, s_ap, s_an, s_ci, s_cr, s_ni, s_n0, s_n1, q_ags, q_cat, List.contains_nil, List.contains_cons, Nat.reduceBEq, Bool.or_false, Bool.false_or, Bool.true_or, Bool.false_eq_true, ↓reduceIte, Nat.le_refl, Nat.zero_le, true_and, and_true, Nat.reduceLeDiff, Nat.reduceAdd, Nat.add_zero, Nat.zero_add, List.length_cons, List.length_nil, List.set_cons_zero, List.set_cons_succ, Nat.reduceLT, s_fi, s_fl, s_fo, s_fa, s_f0, s_f1, s_set, s_ss, lg_cmp_ge, lg_cmp_le, lg_cmp_gt, lg_cmp_lt, lg_cmp_eq, s_brT, s_brF, s_10, w_Mo_readFlags, r_Mo_readFlags, l_Mo_readFlags_0, l_Mo_readFlags_6, l_Mo_readFlags_60, l_Mo_readFlags_61, l_Mo_readFlags_89, l_Mo_readFlags_90, l_Mo_readFlags_96, l_Mo_readFlags_150, l_Mo_readFlags_151, l_Mo_readFlags_158, l_Mo_readFlags_168, kc_0, f_8_105, ml_8_116, w_Mo_u8, kc_3, kc_1, kj_1, ml_8_109, w_Mo_need, f_8_38, f_8_31, ks_512, kc_2, Mh_y, Mh_1, Mh_s1, Mh_2, Mh_s2, Mh_3, Mh_s3, Mh_4, Mh_s4, Mh_5, Mh_s5, Mh_6, Mh_s6, Mh_7, Mh_s7, Mh_8, Mh_s8, Mh_9, Mh_s9, Mh_10, Mh_s10, Mh_11, Mh_s11, Mh_12, Mh_s12, Mh_13, Mh_s13, Mh_14, Mh_s14, Mh_15, Mh_s15, Mh_16, Mh_s16, Mh_17, Mh_s17, Mh_18, Mh_s18, Mh_19, Mh_s19, Mh_20, Mh_s20, Mh_21, Mh_s21, Mh_22, Mh_s22, Mh_23, Mh_s23, Mh_24, Mh_s24, Mh_p]
      have rt : rn_t F (w + a) = F (w + a + 1) := if_pos c
      have rp : rn_p F (w + a) = w + a + 2 := if_pos c
      rw [rt, rp] at one
      refine y_Mo_readFlags (ag := 1) (a0 := a0) (fl := FL F (w + ln) (w + a0)) hd hN hlt (hb _) b1 (by omega) (by omega) E K (fun z v => ?_) (fun z1 z2 => ?_)
      · refine q0 ?_ h v E K0
        rcases Nat.lt_or_ge (a + 1) ln with y1 | y1
        · rw [if_pos (show w + a + 2 ≤ w + ln by omega)] at one
          rw [U8_in y1, decide_eq_false (show ¬ ln ≤ a + 1 by omega)] at z
          have z : N < k + 1 + F (w + (a + 1)) := by
            rcases z with z | z
            · cases z
            · exact z
          have := FS_run one (N - (k + 1)) (by rw [show w + a + 1 = w + (a + 1) by omega]; omega)
          rw [show k + 1 + (N - (k + 1)) = N by omega] at this
          intro f p
          rw [this]
          intro q
          cases hq : F (w + a + 1) - (N - (k + 1)) with
          | zero => rw [show w + a + 1 = w + (a + 1) by omega] at hq; omega
          | succ m => rw [hq] at q; cases q
        · exact bad (by rw [one, if_neg (by omega)])
      · have y1 : a + 1 < ln := by
          rw [decide_eq_false_iff_not] at z1
          omega
        rw [if_pos (show w + a + 2 ≤ w + ln by omega)] at one
        rw [U8_in y1] at z2 ⊢
        rw [show w + (a + 1) = w + a + 1 by omega] at z2 ⊢
        refine ⟨fun j j1 j2 => ?_, fun h' E' K' => ?_⟩
        · have := FL_run one (j := j - k) (by omega)
          rw [show k + (j - k) = j by omega] at this
          exact this
        · have run := FS_run one (F (w + a + 1)) (Nat.le_refl _)
          rw [Nat.sub_self, show k + 1 + F (w + a + 1) = k + (1 + F (w + a + 1)) by omega, show w + a + 2 = w + (a + 1 + 1) by omega] at run
          exact ih _ (a + 1 + 1) _ h' (by omega) (by omega) (by omega) run E' K'
    · have c : ¬ BT (U8 F w ln a) 3 := fun z => c (by rw [show U8 F w ln a / 2 ^ 3 % 2 = 1 from z]; rfl)
      have c0 : U8 F w ln a / 2 ^ 3 % 2 = 0 := by
        have : ¬ U8 F w ln a / 2 ^ 3 % 2 = 1 := c
        omega
      rw [c0]
      rcases Nat.lt_or_ge a ln with al | al
      · rw [decide_eq_false (show ¬ ln ≤ a by omega)]
        rw [U8_in al] at c ⊢
        have rt : rn_t F (w + a) = 0 := if_neg c
        have rp : rn_p F (w + a) = w + a + 1 := if_neg c
        rw [rt, rp, if_pos (by omega)] at one
        refine y_Mo_readFlags (ag := 0) (t := 0) (a0 := a0) (fl := FL F (w + ln) (w + a0)) hd hN hlt (hb _) (by omega) (by omega) (by omega) E K (fun z v => ?_) (fun z1 z2 => ⟨fun j j1 j2 => ?_, fun h' E' K' => ?_⟩)
        · rcases z with z | z
          · cases z
          · omega
        · have := FL_run one (j := j - k) (by omega)
          rw [show k + (j - k) = j by omega] at this
          exact this
        · rw [show w + a + 1 = w + (a + 1 + 0) by omega] at one
          exact ih _ (a + 1 + 0) _ h' (by omega) (by omega) (by omega) one E' K'
      · rw [decide_eq_true (show ln ≤ a by omega), U8_out al]
        refine y_Mo_readFlags (ag := 0) (t := 0) (a0 := a0) (fl := FL F (w + ln) (w + a0)) hd hN hlt (by omega) (by omega) (by omega) (by omega) E K (fun z v => ?_) (fun z1 z2 => by cases z1)
        refine q0 (bad ?_) h v E K0
        rw [one, if_neg]
        unfold rn_p
        split <;> omega
set_option maxRecDepth 100000 in
set_option maxHeartbeats 4000000 in
theorem c_Mo_readFlags {G : q_G} {l : Launch} {dd y n d w ln a0 N sz : Nat} {fa si fo wi of_ pr le : Int32} {F : Nat → Nat} {h : q_H} {Q : q_P} (hd : d ≤ 5) (hN : N ≤ 256) (hb : ∀ j, F j < 256) (hs : sz ≤ 16384) (hin : w + ln ≤ sz) (ha : a0 ≤ ln) (hF : MoF h y of_ F sz) (E : MoE h y)
    (q1 : ∀ f a, FS F (w + ln) (w + a0) N = some (0, f, w + a) → a ≤ ln → ∀ h', MoE h' y → RF_k h h' y d (FL F (w + ln) (w + a0)) N → Q (some (.long (lN a))) (Mh h' y fa si fo wi of_ (bI false) pr le) n)
    (q0 : (∀ f p, FS F (w + ln) (w + a0) N ≠ some (0, f, p)) → ∀ h' v, MoE h' y → RF_k h h' y d (FL F (w + ln) (w + a0)) 0 → Q (some (.long v)) (Mh h' y fa si fo wi of_ (bI true) pr le) n) : q_Call G l M_Mo_readFlags (dd + 2) 0 0 [.ref y, .int (nI w), .int (nI ln), .long (lN a0), .int (nI N), .int (nI d)] (Mh h y fa si fo wi of_ (bI false) pr le) n Q := by
  refine q_in u_Mo_readFlags (by rw [L_Mo_readFlags]; exact Nat.le_of_ble_eq_true rfl) ?_
  rw [L_Mo_readFlags]
  refine q_at o_Mo_readFlags [6] 20 l_Mo_readFlags_0 ?_
  simp -implicitDefEqProofs only [s_go, s_nil, s_cons, q_ins, s_op, s_i, s_j, s_a, s_v, s_li, s_lj, s_la, s_liO, s_ljO, s_laO, q_get, q_p1, q_p2, s_n2i, s_n2r, s_n2l, s_n2n, q_pad, q_ar, s_ob, s_obO, q_nth, s_ri, s_riO, s_rb, s_rbO, s_rzO, s_rl, s_rlO, s_rq, s_rqO, s_ry, s_ryO, s_dn, s_tl, s_tn, s_ap, s_an, s_ci, s_cr, s_ni, s_n0, s_n1, q_ags, q_cat, List.contains_nil, List.contains_cons, Nat.reduceBEq, Bool.or_false, Bool.false_or, Bool.true_or, Bool.false_eq_true, ↓reduceIte, Nat.le_refl, Nat.zero_le, true_and, and_true, Nat.reduceLeDiff, Nat.reduceAdd, Nat.add_zero, Nat.zero_add, List.length_cons, List.length_nil, List.set_cons_zero, List.set_cons_succ, Nat.reduceLT, s_fi, s_fl, s_fo, s_fa, s_f0, s_f1, s_set, s_ss, lg_cmp_ge, lg_cmp_le, lg_cmp_gt, lg_cmp_lt, lg_cmp_eq, s_brT, s_brF, s_10, w_Mo_readFlags, r_Mo_readFlags, l_Mo_readFlags_0, l_Mo_readFlags_6, l_Mo_readFlags_60, l_Mo_readFlags_61, l_Mo_readFlags_89, l_Mo_readFlags_90, l_Mo_readFlags_96, l_Mo_readFlags_150, l_Mo_readFlags_151, l_Mo_readFlags_158, l_Mo_readFlags_168, kc_0, f_8_105, ml_8_116, w_Mo_u8, kc_3, kc_1, kj_1, ml_8_109, w_Mo_need, f_8_38, f_8_31, ks_512, kc_2, Mh_y, Mh_1, Mh_s1, Mh_2, Mh_s2, Mh_3, Mh_s3, Mh_4, Mh_s4, Mh_5, Mh_s5, Mh_6, Mh_s6, Mh_7, Mh_s7, Mh_8, Mh_s8, Mh_9, Mh_s9, Mh_10, Mh_s10, Mh_11, Mh_s11, Mh_12, Mh_s12, Mh_13, Mh_s13, Mh_14, Mh_s14, Mh_15, Mh_s15, Mh_16, Mh_s16, Mh_17, Mh_s17, Mh_18, Mh_s18, Mh_19, Mh_s19, Mh_20, Mh_s20, Mh_21, Mh_s21, Mh_22, Mh_s22, Mh_23, Mh_s23, Mh_24, Mh_s24, Mh_p]
  refine q_wk (z_Mo_readFlags hd hN hb hs hin hF q1 q0 N 0 a0 0 h (by omega) (by omega) ha rfl E ⟨fun _ _ _ => rfl, fun _ _ => rfl, fun j hj => absurd hj (by omega)⟩) ?_
  exact ⟨rfl, rfl, rfl, rfl, rfl, rfl, rfl, trivial⟩
