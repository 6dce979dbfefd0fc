/-! the reference: groupGlyph -/
def gm (F : Nat → Nat) (cs cl p c k : Nat) : Prop := g_f F cs cl p k ≤ c ∧ c ≤ g_l F cs cl p k
def gv_ (F : Nat → Nat) (cs cl p c k : Nat) : Nat := (U32 F cs cl (p + 16 + 12 * k + 8) + (c - g_f F cs cl p k)) % 4294967296
def GGl (F : Nat → Nat) (cs cl p c : Nat) : Nat → Nat
  | 0 => 0
  | k + 1 => if g_f F cs cl p k ≤ c ∧ c ≤ g_l F cs cl p k then gv_ F cs cl p c k else GGl F cs cl p c k
theorem GGl_s (F : Nat → Nat) (cs cl p c k : Nat) : GGl F cs cl p c (k + 1) = if g_f F cs cl p k ≤ c ∧ c ≤ g_l F cs cl p k then gv_ F cs cl p c k else GGl F cs cl p c k := rfl
theorem GGl_at {F : Nat → Nat} {cs cl p c j : Nat} (hm : gm F cs cl p c j) : ∀ N, j < N → (∀ i, i < N → gm F cs cl p c i → i = j) → GGl F cs cl p c N = gv_ F cs cl p c j
  | 0, h, _ => by omega
  | N + 1, h, hu => by
    unfold GGl
    by_cases c1 : g_f F cs cl p N ≤ c ∧ c ≤ g_l F cs cl p N
    · rw [if_pos c1, hu N (by omega) c1]
    · rw [if_neg c1]
      refine GGl_at hm N ?_ (fun i hi => hu i (by omega))
      rcases Nat.lt_or_ge j N with z | z
      · exact z
      · exact absurd (show g_f F cs cl p N ≤ c ∧ c ≤ g_l F cs cl p N by rw [show N = j by omega]; exact hm) c1
theorem GGl_no {F : Nat → Nat} {cs cl p c : Nat} : ∀ N, (∀ i, i < N → ¬ gm F cs cl p c i) → GGl F cs cl p c N = 0
  | 0, _ => rfl
  | N + 1, h => by
    unfold GGl
    rw [if_neg (show ¬ (g_f F cs cl p N ≤ c ∧ c ≤ g_l F cs cl p N) from h N (by omega))]
    exact GGl_no N (fun i hi => h i (by omega))
theorem GGr_at {F : Nat → Nat} {cs cl p c j : Nat} (hm : gm F cs cl p c j) : ∀ r k, k ≤ j → j < k + r → (∀ i, k ≤ i → i < k + r → gm F cs cl p c i → i = j) → GGr F cs cl p c k r = gv_ F cs cl p c j
  | 0, k, h1, h2, _ => by omega
  | r + 1, k, h1, h2, hu => by
    unfold GGr
    by_cases c1 : g_f F cs cl p k ≤ c ∧ c ≤ g_l F cs cl p k
    · rw [if_pos c1, ← hu k (by omega) (by omega) c1]
      rfl
    · rw [if_neg c1]
      refine GGr_at hm r (k + 1) ?_ (by omega) (fun i h3 h4 => hu i (by omega) (by omega))
      rcases Nat.lt_or_ge k j with z | z
      · omega
      · exact absurd (show g_f F cs cl p k ≤ c ∧ c ≤ g_l F cs cl p k by rw [show k = j by omega]; exact hm) c1
theorem GGr_no {F : Nat → Nat} {cs cl p c : Nat} : ∀ r k, (∀ i, k ≤ i → i < k + r → ¬ gm F cs cl p c i) → GGr F cs cl p c k r = 0
  | 0, _, _ => rfl
  | r + 1, k, h => by
    unfold GGr
    rw [if_neg (show ¬ (g_f F cs cl p k ≤ c ∧ c ≤ g_l F cs cl p k) from h k (by omega) (by omega))]
    exact GGr_no r (k + 1) (fun i h1 h2 => h i (by omega) (by omega))
theorem g_mono {F : Nat → Nat} {cs cl p : Nat} (h : GR_ok F cs cl p) : ∀ r i, i + r + 1 < U32 F cs cl (p + 12) → g_l F cs cl p i < g_f F cs cl p (i + r + 1)
  | 0, i, e => (h.2.2.2.1 (i + 1) e).1 (by omega)
  | r + 1, i, e => by
    have h1 := g_mono h r i (by omega)
    have h2 := (h.2.2.2.1 (i + r + 1) (by omega)).2
    have h3 := (h.2.2.2.1 (i + (r + 1) + 1) e).1 (by omega)
    rw [show i + (r + 1) + 1 - 1 = i + r + 1 by omega] at h3
    omega
theorem g_uni {F : Nat → Nat} {cs cl p c i j : Nat} (h : GR_ok F cs cl p) (hi : i < U32 F cs cl (p + 12)) (hj : j < U32 F cs cl (p + 12)) (mi : gm F cs cl p c i) (mj : gm F cs cl p c j) : i = j := by
  rcases Nat.lt_trichotomy i j with z | z | z
  · have := g_mono h (j - i - 1) i (by omega)
    rw [show i + (j - i - 1) + 1 = j by omega] at this
    have := mi.2
    have := mj.1
    omega
  · exact z
  · have := g_mono h (i - j - 1) j (by omega)
    rw [show j + (i - j - 1) + 1 = i by omega] at this
    have := mj.2
    have := mi.1
    omega
theorem GG_eq {F : Nat → Nat} {cs cl p c : Nat} (h : GR_ok F cs cl p) : GGl F cs cl p c (U32 F cs cl (p + 12)) = GGr F cs cl p c 0 (U32 F cs cl (p + 12)) := by
  by_cases e : ∃ j, j < U32 F cs cl (p + 12) ∧ gm F cs cl p c j
  · obtain ⟨j, hj, mj⟩ := e
    rw [GGl_at mj _ hj (fun i hi mi => g_uni h hi hj mi mj), GGr_at mj _ 0 (by omega) (by omega) (fun i _ hi mi => g_uni h (by omega) hj mi mj)]
  · rw [GGl_no _ (fun i hi mi => e ⟨i, hi, mi⟩), GGr_no _ 0 (fun i _ hi mi => e ⟨i, by omega, mi⟩)]
set_option maxRecDepth 100000 in
set_option maxHeartbeats 4000000 in
theorem z_Mo_groupGlyph {G : q_G} {l : Launch} {d y n sz p c : Nat} {fa si fo wi of_ pr le : Int32} {F : Nat → Nat} {h : q_H} {Q : q_P} (R : MoR h y of_ F sz) (hp : p ≤ 16384) (hN : U32 F (t_cm F sz).1 (t_cm F sz).2 (p + 12) ≤ 16384) (hc : c ≤ 1114111)
    (hq : ∀ b, Q (some (.int (nI (if GGl F (t_cm F sz).1 (t_cm F sz).2 p c (U32 F (t_cm F sz).1 (t_cm F sz).2 (p + 12)) < f_N F sz then GGl F (t_cm F sz).1 (t_cm F sz).2 p c (U32 F (t_cm F sz).1 (t_cm F sz).2 (p + 12)) else 0)))) (Mh h y fa si fo wi of_ (bI b) pr le) n) :
    ∀ (r k : Nat) (b : Bool), k + r = U32 F (t_cm F sz).1 (t_cm F sz).2 (p + 12) → q_Z G l M_Mo_groupGlyph (d + 5) 0 0 Q 24 [some (.ref y), some (.int (nI c)), some (.long (lN p)), none, some (.long (lN (U32 F (t_cm F sz).1 (t_cm F sz).2 (p + 12)))), none, some (.long (lN (GGl F (t_cm F sz).1 (t_cm F sz).2 p c k))), none, some (.long (lN k)), none, none, none, none, none, none] [] (Mh h y fa si fo wi of_ (bI b) pr le) n 0 0 := by
  have hb := R.2.2.2.1
  generalize hcs : (t_cm F sz).1 = cs at *
  generalize hcl : (t_cm F sz).2 = cl at *
  have tb : TB F sz 0 = (cs, cl) := by rw [← hcs, ← hcl]; rfl
  have bN : f_N F sz < 65536 := U16_lt hb _ _ 4
  have gl_lt : ∀ k, GGl F cs cl p c k < 4294967296 := by
    intro k
    induction k with
    | zero => show 0 < 4294967296; omega
    | succ k ih =>
      unfold GGl
      split
      · unfold gv_; omega
      · exact ih
  intro r
  induction r with
  | zero =>
    intro k b hk
    have e : k = U32 F cs cl (p + 12) := by omega
    subst e
    have g1 := gl_lt (U32 F cs cl (p + 12))
    refine q_at o_Mo_groupGlyph [24] 20 l_Mo_groupGlyph_24 ?_
    simp -implicitDefEqProofs only [s_go, s_nil, s_cons, q_ins, s_op, s_i, s_j, s_a, s_v, s_li, s_lj, s_la, s_liO, s_ljO, s_laO, q_get, q_p1, q_p2, s_n2i, s_n2r, s_n2l, s_n2n, q_pad, q_ar, s_ob, s_obO, q_nth, s_ri, s_riO, s_rb, s_rbO, s_rzO, s_rl, s_rlO, s_rq, s_rqO, s_ry, s_ryO, s_dn, s_tl, s_tn, s_ap, s_an, s_ci, s_cr, s_ni, s_n0, s_n1, q_ags, q_cat, List.contains_nil, List.contains_cons, Nat.reduceBEq, Bool.or_false, Bool.false_or, Bool.true_or, Bool.false_eq_true, ↓reduceIte, Nat.le_refl, Nat.zero_le, true_and, and_true, Nat.reduceLeDiff, Nat.reduceAdd, Nat.add_zero, Nat.zero_add, List.length_cons, List.length_nil, List.set_cons_zero, List.set_cons_succ, Nat.reduceLT, s_fi, s_fl, s_fo, s_fa, s_f0, s_f1, s_set, s_ss, lg_cmp_ge, lg_cmp_le, lg_cmp_gt, lg_cmp_lt, lg_cmp_eq, s_brT, s_brF, s_10, w_Mo_groupGlyph, r_Mo_groupGlyph, l_Mo_groupGlyph_0, l_Mo_groupGlyph_24, l_Mo_groupGlyph_84, l_Mo_groupGlyph_85, l_Mo_groupGlyph_116, l_Mo_groupGlyph_118, l_Mo_groupGlyph_129, l_Mo_groupGlyph_146, l_Mo_groupGlyph_147, kc_1, ml_8_188, w_Mo_mapAt, kc_0, kl_8_147, ml_8_169, w_Mo_t32, kj_0, kl_8_149, kl_8_139, kl_8_151, kl_8_155, kj_1, ml_8_175, w_Mo_glyphCount, Mh_y, Mh_1, Mh_s1, Mh_2, Mh_s2, Mh_3, Mh_s3, Mh_4, Mh_s4, Mh_5, Mh_s5, Mh_6, Mh_s6, Mh_7, Mh_s7, Mh_8, Mh_s8, Mh_9, Mh_s9, Mh_10, Mh_s10, Mh_11, Mh_s11, Mh_12, Mh_s12, Mh_13, Mh_s13, Mh_14, Mh_s14, Mh_15, Mh_s15, Mh_16, Mh_s16, Mh_17, Mh_s17, Mh_18, Mh_s18, Mh_19, Mh_s19, Mh_20, Mh_s20, Mh_21, Mh_s21, Mh_22, Mh_s22, Mh_23, Mh_s23, Mh_24, Mh_s24, Mh_p, show (lN (U32 F cs cl (p + 12)) ≤ lN (U32 F cs cl (p + 12))) = True from eq_true ((pk_lLE (by omega) (by omega)).mpr (Nat.le_refl _))]
    refine q_c0 (Nat.le_refl _) (Nat.le_refl _) ?_
    refine c_Mo_glyphCount (d := d) R ?_
    simp -implicitDefEqProofs only [s_go, s_nil, s_cons, q_ins, s_op, s_i, s_j, s_a, s_v, s_li, s_lj, s_la, s_liO, s_ljO, s_laO, q_get, q_p1, q_p2, s_n2i, s_n2r, s_n2l, s_n2n, q_pad, q_ar, s_ob, s_obO, q_nth, s_ri, s_riO, s_rb, s_rbO, s_rzO, s_rl, s_rlO, s_rq, s_rqO, s_ry, s_ryO, s_dn, s_tl, s_tn, s_ap, s_an, s_ci, s_cr, s_ni, s_n0, s_n1, q_ags, q_cat, List.contains_nil, List.contains_cons, Nat.reduceBEq, Bool.or_false, Bool.false_or, Bool.true_or, Bool.false_eq_true, ↓reduceIte, Nat.le_refl, Nat.zero_le, true_and, and_true, Nat.reduceLeDiff, Nat.reduceAdd, Nat.add_zero, Nat.zero_add, List.length_cons, List.length_nil, List.set_cons_zero, List.set_cons_succ, Nat.reduceLT, s_fi, s_fl, s_fo, s_fa, s_f0, s_f1, s_set, s_ss, lg_cmp_ge, lg_cmp_le, lg_cmp_gt, lg_cmp_lt, lg_cmp_eq, s_brT, s_brF, s_10, w_Mo_groupGlyph, r_Mo_groupGlyph, l_Mo_groupGlyph_0, l_Mo_groupGlyph_24, l_Mo_groupGlyph_84, l_Mo_groupGlyph_85, l_Mo_groupGlyph_116, l_Mo_groupGlyph_118, l_Mo_groupGlyph_129, l_Mo_groupGlyph_146, l_Mo_groupGlyph_147, kc_1, ml_8_188, w_Mo_mapAt, kc_0, kl_8_147, ml_8_169, w_Mo_t32, kj_0, kl_8_149, kl_8_139, kl_8_151, kl_8_155, kj_1, ml_8_175, w_Mo_glyphCount, Mh_y, Mh_1, Mh_s1, Mh_2, Mh_s2, Mh_3, Mh_s3, Mh_4, Mh_s4, Mh_5, Mh_s5, Mh_6, Mh_s6, Mh_7, Mh_s7, Mh_8, Mh_s8, Mh_9, Mh_s9, Mh_10, Mh_s10, Mh_11, Mh_s11, Mh_12, Mh_s12, Mh_13, Mh_s13, Mh_14, Mh_s14, Mh_15, Mh_s15, Mh_16, Mh_s16, Mh_17, Mh_s17, Mh_18, Mh_s18, Mh_19, Mh_s19, Mh_20, Mh_s20, Mh_21, Mh_s21, Mh_22, Mh_s22, Mh_23, Mh_s23, Mh_24, Mh_s24, Mh_p, nI_l (show f_N F sz < 2 ^ 31 by omega), lN_i]
    refine ⟨fun z => ?_, fun z => ?_⟩
    · have q := hq (b || decide ((t_mx F sz).2 < 6))
      rw [if_neg (by have := (pk_lLE (by omega) (by omega)).mp z; omega)] at q
      exact q
    · have q := hq (b || decide ((t_mx F sz).2 < 6))
      rw [if_pos (Nat.not_le.mp (fun q => z ((pk_lLE (by omega) (by omega)).mpr q)))] at q
      exact q
  | succ r ih =>
    intro k b hk
    have b1 : g_f F cs cl p k < 4294967296 := U32_lt hb cs cl _
    have b2 : g_l F cs cl p k < 4294967296 := U32_lt hb cs cl _
    have b3 := U32_lt hb cs cl (p + 16 + 12 * k + 8)
    have NO : ¬ (g_f F cs cl p k ≤ c ∧ c ≤ g_l F cs cl p k) → ∀ b x10 x12 x14, q_Z G l M_Mo_groupGlyph (d + 5) 0 0 Q 24 [some (.ref y), some (.int (nI c)), some (.long (lN p)), none, some (.long (lN (U32 F cs cl (p + 12)))), none, some (.long (lN (GGl F cs cl p c k))), none, some (.long (lN (k + 1))), none, x10, none, x12, none, x14] [] (Mh h y fa si fo wi of_ (bI b) pr le) n 0 0 := by
      intro z b x10 x12 x14
      refine q_wk (ih (k + 1) b (by omega)) ⟨rfl, rfl, rfl, rfl, ?_, rfl, trivial⟩
      rw [GGl_s, if_neg z]
    refine q_at o_Mo_groupGlyph [24] 20 l_Mo_groupGlyph_24 ?_
    simp -implicitDefEqProofs only [s_go, s_nil, s_cons, q_ins, s_op, s_i, s_j, s_a, s_v, s_li, s_lj, s_la, s_liO, s_ljO, s_laO, q_get, q_p1, q_p2, s_n2i, s_n2r, s_n2l, s_n2n, q_pad, q_ar, s_ob, s_obO, q_nth, s_ri, s_riO, s_rb, s_rbO, s_rzO, s_rl, s_rlO, s_rq, s_rqO, s_ry, s_ryO, s_dn, s_tl, s_tn, s_ap, s_an, s_ci, s_cr, s_ni, s_n0, s_n1, q_ags, q_cat, List.contains_nil, List.contains_cons, Nat.reduceBEq, Bool.or_false, Bool.false_or, Bool.true_or, Bool.false_eq_true, ↓reduceIte, Nat.le_refl, Nat.zero_le, true_and, and_true, Nat.reduceLeDiff, Nat.reduceAdd, Nat.add_zero, Nat.zero_add, List.length_cons, List.length_nil, List.set_cons_zero, List.set_cons_succ, Nat.reduceLT, s_fi, s_fl, s_fo, s_fa, s_f0, s_f1, s_set, s_ss, lg_cmp_ge, lg_cmp_le, lg_cmp_gt, lg_cmp_lt, lg_cmp_eq, s_brT, s_brF, s_10, w_Mo_groupGlyph, r_Mo_groupGlyph, l_Mo_groupGlyph_0, l_Mo_groupGlyph_24, l_Mo_groupGlyph_84, l_Mo_groupGlyph_85, l_Mo_groupGlyph_116, l_Mo_groupGlyph_118, l_Mo_groupGlyph_129, l_Mo_groupGlyph_146, l_Mo_groupGlyph_147, kc_1, ml_8_188, w_Mo_mapAt, kc_0, kl_8_147, ml_8_169, w_Mo_t32, kj_0, kl_8_149, kl_8_139, kl_8_151, kl_8_155, kj_1, ml_8_175, w_Mo_glyphCount, Mh_y, Mh_1, Mh_s1, Mh_2, Mh_s2, Mh_3, Mh_s3, Mh_4, Mh_s4, Mh_5, Mh_s5, Mh_6, Mh_s6, Mh_7, Mh_s7, Mh_8, Mh_s8, Mh_9, Mh_s9, Mh_10, Mh_s10, Mh_11, Mh_s11, Mh_12, Mh_s12, Mh_13, Mh_s13, Mh_14, Mh_s14, Mh_15, Mh_s15, Mh_16, Mh_s16, Mh_17, Mh_s17, Mh_18, Mh_s18, Mh_19, Mh_s19, Mh_20, Mh_s20, Mh_21, Mh_s21, Mh_22, Mh_s22, Mh_23, Mh_s23, Mh_24, Mh_s24, Mh_p, show (lN (U32 F cs cl (p + 12)) ≤ lN k) = False from eq_false (fun c => absurd ((pk_lLE (by omega) (by omega)).mp c) (by omega)), show lN p + 16 = lN (p + 16) from lN_add p 16, show (12 : Int64) * lN k = lN (12 * k) from lN_mul 12 k, show lN (p + 16) + lN (12 * k) = lN (p + 16 + 12 * k) from lN_add _ _]
    refine q_c0 (Nat.le_refl _) (Nat.le_refl _) ?_
    refine c_Mo_t32 (d := d) (t := 0) R (by omega) (by omega) ?_
    rw [tb]
    simp -implicitDefEqProofs only [s_go, s_nil, s_cons, q_ins, s_op, s_i, s_j, s_a, s_v, s_li, s_lj, s_la, s_liO, s_ljO, s_laO, q_get, q_p1, q_p2, s_n2i, s_n2r, s_n2l, s_n2n, q_pad, q_ar, s_ob, s_obO, q_nth, s_ri, s_riO, s_rb, s_rbO, s_rzO, s_rl, s_rlO, s_rq, s_rqO, s_ry, s_ryO, s_dn, s_tl, s_tn, s_ap, s_an, s_ci, s_cr, s_ni, s_n0, s_n1, q_ags, q_cat, List.contains_nil, List.contains_cons, Nat.reduceBEq, Bool.or_false, Bool.false_or, Bool.true_or, Bool.false_eq_true, ↓reduceIte, Nat.le_refl, Nat.zero_le, true_and, and_true, Nat.reduceLeDiff, Nat.reduceAdd, Nat.add_zero, Nat.zero_add, List.length_cons, List.length_nil, List.set_cons_zero, List.set_cons_succ, Nat.reduceLT, s_fi, s_fl, s_fo, s_fa, s_f0, s_f1, s_set, s_ss, lg_cmp_ge, lg_cmp_le, lg_cmp_gt, lg_cmp_lt, lg_cmp_eq, s_brT, s_brF, s_10, w_Mo_groupGlyph, r_Mo_groupGlyph, l_Mo_groupGlyph_0, l_Mo_groupGlyph_24, l_Mo_groupGlyph_84, l_Mo_groupGlyph_85, l_Mo_groupGlyph_116, l_Mo_groupGlyph_118, l_Mo_groupGlyph_129, l_Mo_groupGlyph_146, l_Mo_groupGlyph_147, kc_1, ml_8_188, w_Mo_mapAt, kc_0, kl_8_147, ml_8_169, w_Mo_t32, kj_0, kl_8_149, kl_8_139, kl_8_151, kl_8_155, kj_1, ml_8_175, w_Mo_glyphCount, Mh_y, Mh_1, Mh_s1, Mh_2, Mh_s2, Mh_3, Mh_s3, Mh_4, Mh_s4, Mh_5, Mh_s5, Mh_6, Mh_s6, Mh_7, Mh_s7, Mh_8, Mh_s8, Mh_9, Mh_s9, Mh_10, Mh_s10, Mh_11, Mh_s11, Mh_12, Mh_s12, Mh_13, Mh_s13, Mh_14, Mh_s14, Mh_15, Mh_s15, Mh_16, Mh_s16, Mh_17, Mh_s17, Mh_18, Mh_s18, Mh_19, Mh_s19, Mh_20, Mh_s20, Mh_21, Mh_s21, Mh_22, Mh_s22, Mh_23, Mh_s23, Mh_24, Mh_s24, Mh_p, nI_l (show c < 2 ^ 31 by omega), show lN (p + 16 + 12 * k) + 4 = lN (p + 16 + 12 * k + 4) from lN_add _ 4, eq_self, lN_1]
    rw [show lN (U32 F cs cl (p + 16 + 12 * k)) = lN (g_f F cs cl p k) from rfl]
    refine ⟨fun z => NO (fun q => absurd ((pk_lLT (by omega) (by omega)).mp z) (by omega)) _ _ _ _, fun z => ?_⟩
    have z : g_f F cs cl p k ≤ c := Nat.not_lt.mp (fun q => z ((pk_lLT (by omega) (by omega)).mpr q))
    refine q_c0 (Nat.le_refl _) (Nat.le_refl _) ?_
    refine c_Mo_t32 (d := d) (t := 0) R (by omega) (by omega) ?_
    rw [tb]
    simp -implicitDefEqProofs only [s_go, s_nil, s_cons, q_ins, s_op, s_i, s_j, s_a, s_v, s_li, s_lj, s_la, s_liO, s_ljO, s_laO, q_get, q_p1, q_p2, s_n2i, s_n2r, s_n2l, s_n2n, q_pad, q_ar, s_ob, s_obO, q_nth, s_ri, s_riO, s_rb, s_rbO, s_rzO, s_rl, s_rlO, s_rq, s_rqO, s_ry, s_ryO, s_dn, s_tl, s_tn, s_ap, s_an, s_ci, s_cr, s_ni, s_n0, s_n1, q_ags, q_cat, List.contains_nil, List.contains_cons, Nat.reduceBEq, Bool.or_false, Bool.false_or, Bool.true_or, Bool.false_eq_true, ↓reduceIte, Nat.le_refl, Nat.zero_le, true_and, and_true, Nat.reduceLeDiff, Nat.reduceAdd, Nat.add_zero, Nat.zero_add, List.length_cons, List.length_nil, List.set_cons_zero, List.set_cons_succ, Nat.reduceLT, s_fi, s_fl, s_fo, s_fa, s_f0, s_f1, s_set, s_ss, lg_cmp_ge, lg_cmp_le, lg_cmp_gt, lg_cmp_lt, lg_cmp_eq, s_brT, s_brF, s_10, w_Mo_groupGlyph, r_Mo_groupGlyph, l_Mo_groupGlyph_0, l_Mo_groupGlyph_24, l_Mo_groupGlyph_84, l_Mo_groupGlyph_85, l_Mo_groupGlyph_116, l_Mo_groupGlyph_118, l_Mo_groupGlyph_129, l_Mo_groupGlyph_146, l_Mo_groupGlyph_147, kc_1, ml_8_188, w_Mo_mapAt, kc_0, kl_8_147, ml_8_169, w_Mo_t32, kj_0, kl_8_149, kl_8_139, kl_8_151, kl_8_155, kj_1, ml_8_175, w_Mo_glyphCount, Mh_y, Mh_1, Mh_s1, Mh_2, Mh_s2, Mh_3, Mh_s3, Mh_4, Mh_s4, Mh_5, Mh_s5, Mh_6, Mh_s6, Mh_7, Mh_s7, Mh_8, Mh_s8, Mh_9, Mh_s9, Mh_10, Mh_s10, Mh_11, Mh_s11, Mh_12, Mh_s12, Mh_13, Mh_s13, Mh_14, Mh_s14, Mh_15, Mh_s15, Mh_16, Mh_s16, Mh_17, Mh_s17, Mh_18, Mh_s18, Mh_19, Mh_s19, Mh_20, Mh_s20, Mh_21, Mh_s21, Mh_22, Mh_s22, Mh_23, Mh_s23, Mh_24, Mh_s24, Mh_p, nI_l (show c < 2 ^ 31 by omega), show lN (p + 16 + 12 * k) + 8 = lN (p + 16 + 12 * k + 8) from lN_add _ 8, eq_self, s_10, lN_1]
    rw [show lN (U32 F cs cl (p + 16 + 12 * k + 4)) = lN (g_l F cs cl p k) from rfl]
    refine ⟨fun z2 => NO (fun q => absurd ((pk_lLT (by omega) (by omega)).mp z2) (by omega)) _ _ _ _, fun z2 => ?_⟩
    have z2 : c ≤ g_l F cs cl p k := Nat.not_lt.mp (fun q => z2 ((pk_lLT (by omega) (by omega)).mpr q))
    refine q_c0 (Nat.le_refl _) (Nat.le_refl _) ?_
    refine c_Mo_t32 (d := d) (t := 0) R (by omega) (by omega) ?_
    rw [tb]
    simp -implicitDefEqProofs only [s_go, s_nil, s_cons, q_ins, s_op, s_i, s_j, s_a, s_v, s_li, s_lj, s_la, s_liO, s_ljO, s_laO, q_get, q_p1, q_p2, s_n2i, s_n2r, s_n2l, s_n2n, q_pad, q_ar, s_ob, s_obO, q_nth, s_ri, s_riO, s_rb, s_rbO, s_rzO, s_rl, s_rlO, s_rq, s_rqO, s_ry, s_ryO, s_dn, s_tl, s_tn, s_ap, s_an, s_ci, s_cr, s_ni, s_n0, s_n1, q_ags, q_cat, List.contains_nil, List.contains_cons, Nat.reduceBEq, Bool.or_false, Bool.false_or, Bool.true_or, Bool.false_eq_true, ↓reduceIte, Nat.le_refl, Nat.zero_le, true_and, and_true, Nat.reduceLeDiff, Nat.reduceAdd, Nat.add_zero, Nat.zero_add, List.length_cons, List.length_nil, List.set_cons_zero, List.set_cons_succ, Nat.reduceLT, s_fi, s_fl, s_fo, s_fa, s_f0, s_f1, s_set, s_ss, lg_cmp_ge, lg_cmp_le, lg_cmp_gt, lg_cmp_lt, lg_cmp_eq, s_brT, s_brF, s_10, w_Mo_groupGlyph, r_Mo_groupGlyph, l_Mo_groupGlyph_0, l_Mo_groupGlyph_24, l_Mo_groupGlyph_84, l_Mo_groupGlyph_85, l_Mo_groupGlyph_116, l_Mo_groupGlyph_118, l_Mo_groupGlyph_129, l_Mo_groupGlyph_146, l_Mo_groupGlyph_147, kc_1, ml_8_188, w_Mo_mapAt, kc_0, kl_8_147, ml_8_169, w_Mo_t32, kj_0, kl_8_149, kl_8_139, kl_8_151, kl_8_155, kj_1, ml_8_175, w_Mo_glyphCount, Mh_y, Mh_1, Mh_s1, Mh_2, Mh_s2, Mh_3, Mh_s3, Mh_4, Mh_s4, Mh_5, Mh_s5, Mh_6, Mh_s6, Mh_7, Mh_s7, Mh_8, Mh_s8, Mh_9, Mh_s9, Mh_10, Mh_s10, Mh_11, Mh_s11, Mh_12, Mh_s12, Mh_13, Mh_s13, Mh_14, Mh_s14, Mh_15, Mh_s15, Mh_16, Mh_s16, Mh_17, Mh_s17, Mh_18, Mh_s18, Mh_19, Mh_s19, Mh_20, Mh_s20, Mh_21, Mh_s21, Mh_22, Mh_s22, Mh_23, Mh_s23, Mh_24, Mh_s24, Mh_p, nI_l (show c < 2 ^ 31 by omega), lN_add, lN_1]
    rw [lN_sub (show g_f F cs cl p k ≤ U32 F cs cl (p + 16 + 12 * k + 8) + c by omega), lN_mask (by omega)]
    refine q_wk (ih (k + 1) _ (by omega)) ⟨rfl, rfl, rfl, rfl, ?_, rfl, trivial⟩
    rw [GGl_s, if_pos ⟨z, z2⟩]
    unfold gv_
    rw [Nat.add_sub_assoc z]
theorem mp_some {F : Nat → Nat} {sz : Nat} (h : MAP_ok F (t_cm F sz).1 (t_cm F sz).2) : mp_v F (t_cm F sz).1 (t_cm F sz).2 (FEr F (t_cm F sz).1 (t_cm F sz).2 (mp_k (mp_w F sz)) 0 (mpN F (t_cm F sz).1 (t_cm F sz).2)) = lN (mp_p F sz) ∧ (mp_w F sz = true → GR_ok F (t_cm F sz).1 (t_cm F sz).2 (mp_p F sz)) ∧ (mp_w F sz = false → SG_ok F (t_cm F sz).1 (t_cm F sz).2 (mp_p F sz)) := by
  have me : MAPe F (t_cm F sz).1 (t_cm F sz).2 = match FEr F (t_cm F sz).1 (t_cm F sz).2 10 0 (mpN F (t_cm F sz).1 (t_cm F sz).2) with
    | some k => some (true, U32 F (t_cm F sz).1 (t_cm F sz).2 (4 + 8 * k + 4))
    | none => match FEr F (t_cm F sz).1 (t_cm F sz).2 1 0 (mpN F (t_cm F sz).1 (t_cm F sz).2) with
      | some k => some (false, U32 F (t_cm F sz).1 (t_cm F sz).2 (4 + 8 * k + 4))
      | none => none := rfl
  have hw : mp_w F sz = match MAPe F (t_cm F sz).1 (t_cm F sz).2 with
    | some (w, _) => w
    | none => false := rfl
  have hp : mp_p F sz = match MAPe F (t_cm F sz).1 (t_cm F sz).2 with
    | some (_, p) => p
    | none => 0 := rfl
  have hm := h.2
  cases h10 : FEr F (t_cm F sz).1 (t_cm F sz).2 10 0 (mpN F (t_cm F sz).1 (t_cm F sz).2) with
  | some k =>
    rw [h10] at me
    dsimp only at me
    rw [me] at hw hp hm
    dsimp only at hw hp
    rw [hw, hp]
    refine ⟨?_, fun _ => ?_, fun z => by cases z⟩
    · rw [show mp_k true = 10 from rfl, h10]
      rfl
    · rcases hm with ⟨p, e, q⟩ | ⟨p, e, q⟩
      · cases e; exact q
      · cases e
  | none =>
    rw [h10] at me
    dsimp only at me
    cases h1 : FEr F (t_cm F sz).1 (t_cm F sz).2 1 0 (mpN F (t_cm F sz).1 (t_cm F sz).2) with
    | some k =>
      rw [h1] at me
      dsimp only at me
      rw [me] at hw hp hm
      dsimp only at hw hp
      rw [hw, hp]
      refine ⟨?_, fun z => (by cases z), fun _ => ?_⟩
      · rw [show mp_k false = 1 from rfl, h1]
        rfl
      · rcases hm with ⟨p, e, q⟩ | ⟨p, e, q⟩
        · cases e
        · cases e; exact q
    | none =>
      rw [h1] at me
      dsimp only at me
      rw [me] at hm
      rcases hm with ⟨p, e, q⟩ | ⟨p, e, q⟩
      · cases e
      · cases e
set_option maxRecDepth 100000 in
set_option maxHeartbeats 4000000 in
theorem c_Mo_groupGlyph {G : q_G} {l : Launch} {d y n sz c : Nat} {fa si fo wi of_ pr le : Int32} {b : Bool} {F : Nat → Nat} {h : q_H} {Q : q_P} (R : MoR h y of_ F sz) (hm : MAP_ok F (t_cm F sz).1 (t_cm F sz).2) (hw : mp_w F sz = true) (hc : c ≤ 1114111) (hq : ∀ b, Q (some (.int (nI (if GGr F (t_cm F sz).1 (t_cm F sz).2 (mp_p F sz) c 0 (mp_n F sz) < f_N F sz then GGr F (t_cm F sz).1 (t_cm F sz).2 (mp_p F sz) c 0 (mp_n F sz) else 0)))) (Mh h y fa si fo wi of_ (bI b) pr le) n) : q_Call G l M_Mo_groupGlyph (d + 6) 0 0 [.ref y, .int (nI c)] (Mh h y fa si fo wi of_ (bI b) pr le) n Q := by
  obtain ⟨m1, m2, -⟩ := mp_some hm
  have gr := m2 hw
  have hi : (t_cm F sz).1 + (t_cm F sz).2 ≤ sz := R.2.2.2.2 0 (by omega)
  have hs := R.2.2.1
  have hn : mp_n F sz = U32 F (t_cm F sz).1 (t_cm F sz).2 (mp_p F sz + 12) := if_pos hw
  have g1 := gr.2.2.1
  rw [hn, ← GG_eq gr] at hq
  refine q_in u_Mo_groupGlyph (by rw [L_Mo_groupGlyph]; exact Nat.le_of_ble_eq_true rfl) ?_
  rw [L_Mo_groupGlyph]
  refine q_at o_Mo_groupGlyph [24] 20 l_Mo_groupGlyph_0 ?_
  simp -implicitDefEqProofs only [s_go, s_nil, s_cons, q_ins, s_op, s_i, s_j, s_a, s_v, s_li, s_lj, s_la, s_liO, s_ljO, s_laO, q_get, q_p1, q_p2, s_n2i, s_n2r, s_n2l, s_n2n, q_pad, q_ar, s_ob, s_obO, q_nth, s_ri, s_riO, s_rb, s_rbO, s_rzO, s_rl, s_rlO, s_rq, s_rqO, s_ry, s_ryO, s_dn, s_tl, s_tn, s_ap, s_an, s_ci, s_cr, s_ni, s_n0, s_n1, q_ags, q_cat, List.contains_nil, List.contains_cons, Nat.reduceBEq, Bool.or_false, Bool.false_or, Bool.true_or, Bool.false_eq_true, ↓reduceIte, Nat.le_refl, Nat.zero_le, true_and, and_true, Nat.reduceLeDiff, Nat.reduceAdd, Nat.add_zero, Nat.zero_add, List.length_cons, List.length_nil, List.set_cons_zero, List.set_cons_succ, Nat.reduceLT, s_fi, s_fl, s_fo, s_fa, s_f0, s_f1, s_set, s_ss, lg_cmp_ge, lg_cmp_le, lg_cmp_gt, lg_cmp_lt, lg_cmp_eq, s_brT, s_brF, s_10, w_Mo_groupGlyph, r_Mo_groupGlyph, l_Mo_groupGlyph_0, l_Mo_groupGlyph_24, l_Mo_groupGlyph_84, l_Mo_groupGlyph_85, l_Mo_groupGlyph_116, l_Mo_groupGlyph_118, l_Mo_groupGlyph_129, l_Mo_groupGlyph_146, l_Mo_groupGlyph_147, kc_1, ml_8_188, w_Mo_mapAt, kc_0, kl_8_147, ml_8_169, w_Mo_t32, kj_0, kl_8_149, kl_8_139, kl_8_151, kl_8_155, kj_1, ml_8_175, w_Mo_glyphCount, Mh_y, Mh_1, Mh_s1, Mh_2, Mh_s2, Mh_3, Mh_s3, Mh_4, Mh_s4, Mh_5, Mh_s5, Mh_6, Mh_s6, Mh_7, Mh_s7, Mh_8, Mh_s8, Mh_9, Mh_s9, Mh_10, Mh_s10, Mh_11, Mh_s11, Mh_12, Mh_s12, Mh_13, Mh_s13, Mh_14, Mh_s14, Mh_15, Mh_s15, Mh_16, Mh_s16, Mh_17, Mh_s17, Mh_18, Mh_s18, Mh_19, Mh_s19, Mh_20, Mh_s20, Mh_21, Mh_s21, Mh_22, Mh_s22, Mh_23, Mh_s23, Mh_24, Mh_s24, Mh_p]
  refine q_c0 (Nat.le_refl _) (Nat.le_refl _) ?_
  refine c_Mo_mapAt (d := d) (w := true) rfl R hm.1 ?_
  rw [← hw, m1]
  simp -implicitDefEqProofs only [s_go, s_nil, s_cons, q_ins, s_op, s_i, s_j, s_a, s_v, s_li, s_lj, s_la, s_liO, s_ljO, s_laO, q_get, q_p1, q_p2, s_n2i, s_n2r, s_n2l, s_n2n, q_pad, q_ar, s_ob, s_obO, q_nth, s_ri, s_riO, s_rb, s_rbO, s_rzO, s_rl, s_rlO, s_rq, s_rqO, s_ry, s_ryO, s_dn, s_tl, s_tn, s_ap, s_an, s_ci, s_cr, s_ni, s_n0, s_n1, q_ags, q_cat, List.contains_nil, List.contains_cons, Nat.reduceBEq, Bool.or_false, Bool.false_or, Bool.true_or, Bool.false_eq_true, ↓reduceIte, Nat.le_refl, Nat.zero_le, true_and, and_true, Nat.reduceLeDiff, Nat.reduceAdd, Nat.add_zero, Nat.zero_add, List.length_cons, List.length_nil, List.set_cons_zero, List.set_cons_succ, Nat.reduceLT, s_fi, s_fl, s_fo, s_fa, s_f0, s_f1, s_set, s_ss, lg_cmp_ge, lg_cmp_le, lg_cmp_gt, lg_cmp_lt, lg_cmp_eq, s_brT, s_brF, s_10, w_Mo_groupGlyph, r_Mo_groupGlyph, l_Mo_groupGlyph_0, l_Mo_groupGlyph_24, l_Mo_groupGlyph_84, l_Mo_groupGlyph_85, l_Mo_groupGlyph_116, l_Mo_groupGlyph_118, l_Mo_groupGlyph_129, l_Mo_groupGlyph_146, l_Mo_groupGlyph_147, kc_1, ml_8_188, w_Mo_mapAt, kc_0, kl_8_147, ml_8_169, w_Mo_t32, kj_0, kl_8_149, kl_8_139, kl_8_151, kl_8_155, kj_1, ml_8_175, w_Mo_glyphCount, Mh_y, Mh_1, Mh_s1, Mh_2, Mh_s2, Mh_3, Mh_s3, Mh_4, Mh_s4, Mh_5, Mh_s5, Mh_6, Mh_s6, Mh_7, Mh_s7, Mh_8, Mh_s8, Mh_9, Mh_s9, Mh_10, Mh_s10, Mh_11, Mh_s11, Mh_12, Mh_s12, Mh_13, Mh_s13, Mh_14, Mh_s14, Mh_15, Mh_s15, Mh_16, Mh_s16, Mh_17, Mh_s17, Mh_18, Mh_s18, Mh_19, Mh_s19, Mh_20, Mh_s20, Mh_21, Mh_s21, Mh_22, Mh_s22, Mh_23, Mh_s23, Mh_24, Mh_s24, Mh_p, show lN (mp_p F sz) + 12 = lN (mp_p F sz + 12) from lN_add _ 12]
  refine q_c0 (Nat.le_refl _) (Nat.le_refl _) ?_
  refine c_Mo_t32 (d := d + 1) (t := 0) R (by omega) (by omega) ?_
  simp -implicitDefEqProofs only [s_go, s_nil, s_cons, q_ins, s_op, s_i, s_j, s_a, s_v, s_li, s_lj, s_la, s_liO, s_ljO, s_laO, q_get, q_p1, q_p2, s_n2i, s_n2r, s_n2l, s_n2n, q_pad, q_ar, s_ob, s_obO, q_nth, s_ri, s_riO, s_rb, s_rbO, s_rzO, s_rl, s_rlO, s_rq, s_rqO, s_ry, s_ryO, s_dn, s_tl, s_tn, s_ap, s_an, s_ci, s_cr, s_ni, s_n0, s_n1, q_ags, q_cat, List.contains_nil, List.contains_cons, Nat.reduceBEq, Bool.or_false, Bool.false_or, Bool.true_or, Bool.false_eq_true, ↓reduceIte, Nat.le_refl, Nat.zero_le, true_and, and_true, Nat.reduceLeDiff, Nat.reduceAdd, Nat.add_zero, Nat.zero_add, List.length_cons, List.length_nil, List.set_cons_zero, List.set_cons_succ, Nat.reduceLT, s_fi, s_fl, s_fo, s_fa, s_f0, s_f1, s_set, s_ss, lg_cmp_ge, lg_cmp_le, lg_cmp_gt, lg_cmp_lt, lg_cmp_eq, s_brT, s_brF, s_10, w_Mo_groupGlyph, r_Mo_groupGlyph, l_Mo_groupGlyph_0, l_Mo_groupGlyph_24, l_Mo_groupGlyph_84, l_Mo_groupGlyph_85, l_Mo_groupGlyph_116, l_Mo_groupGlyph_118, l_Mo_groupGlyph_129, l_Mo_groupGlyph_146, l_Mo_groupGlyph_147, kc_1, ml_8_188, w_Mo_mapAt, kc_0, kl_8_147, ml_8_169, w_Mo_t32, kj_0, kl_8_149, kl_8_139, kl_8_151, kl_8_155, kj_1, ml_8_175, w_Mo_glyphCount, Mh_y, Mh_1, Mh_s1, Mh_2, Mh_s2, Mh_3, Mh_s3, Mh_4, Mh_s4, Mh_5, Mh_s5, Mh_6, Mh_s6, Mh_7, Mh_s7, Mh_8, Mh_s8, Mh_9, Mh_s9, Mh_10, Mh_s10, Mh_11, Mh_s11, Mh_12, Mh_s12, Mh_13, Mh_s13, Mh_14, Mh_s14, Mh_15, Mh_s15, Mh_16, Mh_s16, Mh_17, Mh_s17, Mh_18, Mh_s18, Mh_19, Mh_s19, Mh_20, Mh_s20, Mh_21, Mh_s21, Mh_22, Mh_s22, Mh_23, Mh_s23, Mh_24, Mh_s24, Mh_p]
  exact z_Mo_groupGlyph (d := d + 1) R (by omega) (by omega) hc hq (U32 F (t_cm F sz).1 (t_cm F sz).2 (mp_p F sz + 12)) 0 _ (by omega)
