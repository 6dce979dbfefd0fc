/-! the reference: findTables -/
def Mp (h : q_H) (y : Nat) (gp gl : Nat → Int32) : q_H := q_set (q_set h (y + 4) (.inl (0, 16, .inl gp))) (y + 5) (.inl (0, 16, .inl gl))
theorem Mp_4 {h : q_H} {y : Nat} {gp gl : Nat → Int32} : Mp h y gp gl (y + 4) = some (.inl (0, 16, .inl gp)) := by unfold Mp; rw [s_ne _ _ (by omega)]; exact s_set _ _ _
theorem Mp_5 {h : q_H} {y : Nat} {gp gl : Nat → Int32} : Mp h y gp gl (y + 5) = some (.inl (0, 16, .inl gl)) := s_set _ _ _
theorem Mp_n {h : q_H} {y b : Nat} {gp gl : Nat → Int32} (h4 : b ≠ y + 4) (h5 : b ≠ y + 5) : Mp h y gp gl b = h b := by unfold Mp; rw [s_ne _ _ h5, s_ne _ _ h4]
theorem Mp_s4 {h : q_H} {y : Nat} {gp gl g : Nat → Int32} : q_set (Mp h y gp gl) (y + 4) (.inl (0, 16, .inl g)) = Mp h y g gl := by unfold Mp; rw [s_sw _ _ _ (show y + 5 ≠ y + 4 by omega), s_ss]
theorem Mp_s5 {h : q_H} {y : Nat} {gp gl g : Nat → Int32} : q_set (Mp h y gp gl) (y + 5) (.inl (0, 16, .inl g)) = Mp h y gp g := s_ss _ _ _ _
theorem Mp_id {h : q_H} {y : Nat} {gp gl : Nat → Int32} (h4 : h (y + 4) = some (.inl (0, 16, .inl gp))) (h5 : h (y + 5) = some (.inl (0, 16, .inl gl))) : Mp h y gp gl = h := by unfold Mp; rw [s_id _ h4, s_id _ h5]
theorem MoF.p {h : q_H} {y : Nat} {of_ : Int32} {F : Nat → Nat} {sz : Nat} {gp gl : Nat → Int32} (k : MoF h y of_ F sz) : MoF (Mp h y gp gl) y of_ F sz := by
  rcases k with ⟨a, g, b, c⟩ | ⟨a, g, b, c⟩
  · exact Or.inl ⟨a, g, (Mp_n (by omega) (by omega)).trans b, c⟩
  · exact Or.inr ⟨a, g, (Mp_n (by omega) (by omega)).trans b, c⟩
theorem FKr_some {F : Nat → Nat} {sz nm : Nat} : ∀ (r k j : Nat), FKr F sz nm k r = some j → k ≤ j ∧ j < k + r ∧ T_n F sz j = nm
  | 0, k, j, h => by cases h
  | r + 1, k, j, h => by
    unfold FKr at h
    by_cases c : T_n F sz k = nm
    · rw [if_pos c] at h; cases h; exact ⟨Nat.le_refl _, by omega, c⟩
    · rw [if_neg c] at h
      have := FKr_some r (k + 1) j h
      exact ⟨by omega, by omega, this.2.2⟩
theorem FKr_none {F : Nat → Nat} {sz nm : Nat} : ∀ (r k : Nat), FKr F sz nm k r = none → ∀ j, k ≤ j → j < k + r → T_n F sz j ≠ nm
  | 0, k, h, j, h1, h2 => by omega
  | r + 1, k, h, j, h1, h2 => by
    unfold FKr at h
    by_cases c : T_n F sz k = nm
    · rw [if_pos c] at h; cases h
    · rw [if_neg c] at h
      rcases Nat.lt_or_ge k j with z | z
      · exact FKr_none r (k + 1) h j (by omega) (by omega)
      · rw [show j = k by omega]; exact c
theorem T_mono {F : Nat → Nat} {sz : Nat} (hf : FILE_ok F sz) : ∀ (r i : Nat), i + r + 1 < NT F sz → T_n F sz i < T_n F sz (i + r + 1)
  | 0, i, h => (hf.2.2.2.2 (i + 1) h).1 (by omega)
  | r + 1, i, h => Nat.lt_trans (T_mono hf r i (by omega)) ((hf.2.2.2.2 (i + (r + 1) + 1) h).1 (by omega))
theorem T_inj {F : Nat → Nat} {sz i j : Nat} (hf : FILE_ok F sz) (hi : i < NT F sz) (hj : j < NT F sz) (e : T_n F sz i = T_n F sz j) : i = j := by
  rcases Nat.lt_trichotomy i j with z | z | z
  · have := T_mono hf (j - i - 1) i (by omega)
    rw [show i + (j - i - 1) + 1 = j by omega] at this
    omega
  · exact z
  · have := T_mono hf (i - j - 1) j (by omega)
    rw [show j + (i - j - 1) + 1 = i by omega] at this
    omega
def MoN (h : q_H) (y : Nat) : Prop := ∃ gn : Nat → Int32, h (y + 3) = some (.inl (0, 7, .inl gn)) ∧ ∀ t, t < 7 → gn t = nI (nms.getD t 0)
theorem nms_lt : ∀ t, t < 7 → nms.getD t 0 < 2 ^ 31 := by decide +kernel
set_option maxRecDepth 100000 in
set_option maxHeartbeats 4000000 in
theorem y_Mo_findTables {G : q_G} {l : Launch} {d y n sz t : Nat} {fa fo wi pr le : Int32} {bb : Bool} {F : Nat → Nat} {h : q_H} {Q : q_P} (hF : MoF h y 0 F sz) (hN : MoN h y) (hb : ∀ j, F j < 256) (hs : sz ≤ 16384) (hf : FILE_ok F sz) (ht : t < 7) {gp0 gl0 : Nat → Int32}
    (kk : ∀ (th : Bool) (gp gl : Nat → Int32), (th = true ↔ FK F sz (nms.getD t 0) ≠ none) → (∀ j, FK F sz (nms.getD t 0) = some j → gp t = nI (T_p F sz j) ∧ gl t = nI (T_l F sz j)) → (∀ j, j ≠ t → gp j = gp0 j ∧ gl j = gl0 j) → q_Z G l M_Mo_findTables (d + 4) 0 0 Q 109 [some (.ref y), some (.int (nI t)), some (.int (bI th)), none, none, none] [] (Mh (Mp h y gp gl) y fa (nI sz) fo wi 0 (bI bb) pr le) n 0 0) :
    ∀ (r k : Nat) (th : Bool) (gp gl : Nat → Int32), k + r = NT F sz → (th = true ↔ ∃ j, j < k ∧ T_n F sz j = nms.getD t 0) → (∀ j, j < k → T_n F sz j = nms.getD t 0 → gp t = nI (T_p F sz j) ∧ gl t = nI (T_l F sz j)) → (∀ j, j ≠ t → gp j = gp0 j ∧ gl j = gl0 j) → q_Z G l M_Mo_findTables (d + 4) 0 0 Q 12 [some (.ref y), some (.int (nI t)), some (.int (bI th)), some (.int (nI k)), none, none] [] (Mh (Mp h y gp gl) y fa (nI sz) fo wi 0 (bI bb) pr le) n 0 0 := by
  have hNT : NT F sz < 65536 := U16_lt hb 0 sz 4
  have f3 := hf.2.2.2.1
  have f1 := hf.2.1
  obtain ⟨gn, hn, hnv⟩ := hN
  have hnl := nms_lt t ht
  intro r
  induction r with
  | zero =>
    intro k th gp gl hk i1 i2 i3
    have e : k = NT F sz := by omega
    subst e
    refine q_at o_Mo_findTables [12, 109] 20 l_Mo_findTables_12 ?_
    simp -implicitDefEqProofs only [s_go, s_nil, s_cons, q_ins, s_op, s_i, s_j, s_a, s_v, s_li, s_lj, s_la, s_liO, s_ljO, s_laO, q_get, q_p1, q_p2, s_n2i, s_n2r, s_n2l, s_n2n, q_pad, q_ar, s_ob, s_obO, q_nth, s_ri, s_riO, s_rb, s_rbO, s_rzO, s_rl, s_rlO, s_rq, s_rqO, s_ry, s_ryO, s_dn, s_tl, s_tn, s_ap, s_an, s_ci, s_cr, s_ni, s_n0, s_n1, q_ags, q_cat, List.contains_nil, List.contains_cons, Nat.reduceBEq, Bool.or_false, Bool.false_or, Bool.true_or, Bool.false_eq_true, ↓reduceIte, Nat.le_refl, Nat.zero_le, true_and, and_true, Nat.reduceLeDiff, Nat.reduceAdd, Nat.add_zero, Nat.zero_add, List.length_cons, List.length_nil, List.set_cons_zero, List.set_cons_succ, Nat.reduceLT, s_fi, s_fl, s_fo, s_fa, s_f0, s_f1, s_set, s_ss, lg_cmp_ge, lg_cmp_le, lg_cmp_gt, lg_cmp_lt, lg_cmp_eq, s_brT, s_brF, s_10, w_Mo_findTables, r_Mo_findTables, l_Mo_findTables_0, l_Mo_findTables_2, l_Mo_findTables_12, l_Mo_findTables_103, l_Mo_findTables_109, l_Mo_findTables_120, kc_0, kb_7, ml_8_141, w_Mo_tables, kl_8_147, kl_8_149, f_8_94, ml_8_135, w_Mo_u32, f_8_16, kc_1, f_8_19, kl_8_151, f_8_22, ml_8_109, w_Mo_need, Mh_y, Mh_1, Mh_s1, Mh_2, Mh_s2, Mh_3, Mh_s3, Mh_4, Mh_s4, Mh_5, Mh_s5, Mh_6, Mh_s6, Mh_7, Mh_s7, Mh_8, Mh_s8, Mh_9, Mh_s9, Mh_10, Mh_s10, Mh_11, Mh_s11, Mh_12, Mh_s12, Mh_13, Mh_s13, Mh_14, Mh_s14, Mh_15, Mh_s15, Mh_16, Mh_s16, Mh_17, Mh_s17, Mh_18, Mh_s18, Mh_19, Mh_s19, Mh_20, Mh_s20, Mh_21, Mh_s21, Mh_22, Mh_s22, Mh_23, Mh_s23, Mh_24, Mh_s24, Mh_p]
    refine q_c0 (Nat.le_refl _) (Nat.le_refl _) ?_
    refine c_Mo_tables hF.p hs ?_
    rw [b_df bb (by omega)]
    simp -implicitDefEqProofs only [s_go, s_nil, s_cons, q_ins, s_op, s_i, s_j, s_a, s_v, s_li, s_lj, s_la, s_liO, s_ljO, s_laO, q_get, q_p1, q_p2, s_n2i, s_n2r, s_n2l, s_n2n, q_pad, q_ar, s_ob, s_obO, q_nth, s_ri, s_riO, s_rb, s_rbO, s_rzO, s_rl, s_rlO, s_rq, s_rqO, s_ry, s_ryO, s_dn, s_tl, s_tn, s_ap, s_an, s_ci, s_cr, s_ni, s_n0, s_n1, q_ags, q_cat, List.contains_nil, List.contains_cons, Nat.reduceBEq, Bool.or_false, Bool.false_or, Bool.true_or, Bool.false_eq_true, ↓reduceIte, Nat.le_refl, Nat.zero_le, true_and, and_true, Nat.reduceLeDiff, Nat.reduceAdd, Nat.add_zero, Nat.zero_add, List.length_cons, List.length_nil, List.set_cons_zero, List.set_cons_succ, Nat.reduceLT, s_fi, s_fl, s_fo, s_fa, s_f0, s_f1, s_set, s_ss, lg_cmp_ge, lg_cmp_le, lg_cmp_gt, lg_cmp_lt, lg_cmp_eq, s_brT, s_brF, s_10, w_Mo_findTables, r_Mo_findTables, l_Mo_findTables_0, l_Mo_findTables_2, l_Mo_findTables_12, l_Mo_findTables_103, l_Mo_findTables_109, l_Mo_findTables_120, kc_0, kb_7, ml_8_141, w_Mo_tables, kl_8_147, kl_8_149, f_8_94, ml_8_135, w_Mo_u32, f_8_16, kc_1, f_8_19, kl_8_151, f_8_22, ml_8_109, w_Mo_need, Mh_y, Mh_1, Mh_s1, Mh_2, Mh_s2, Mh_3, Mh_s3, Mh_4, Mh_s4, Mh_5, Mh_s5, Mh_6, Mh_s6, Mh_7, Mh_s7, Mh_8, Mh_s8, Mh_9, Mh_s9, Mh_10, Mh_s10, Mh_11, Mh_s11, Mh_12, Mh_s12, Mh_13, Mh_s13, Mh_14, Mh_s14, Mh_15, Mh_s15, Mh_16, Mh_s16, Mh_17, Mh_s17, Mh_18, Mh_s18, Mh_19, Mh_s19, Mh_20, Mh_s20, Mh_21, Mh_s21, Mh_22, Mh_s22, Mh_23, Mh_s23, Mh_24, Mh_s24, Mh_p, show (nI (NT F sz) ≤ nI (NT F sz)) = True from eq_true (nI_le (by omega) (by omega))]
    refine q_wk (kk th gp gl ?_ ?_ i3) ⟨rfl, rfl, rfl, trivial⟩
    · rw [i1]
      constructor
      · rintro ⟨j, a, b⟩ z
        exact FKr_none (NT F sz) 0 z j (by omega) (by omega) b
      · intro z
        cases e : FK F sz (nms.getD t 0) with
        | none => exact absurd e z
        | some j =>
          have := FKr_some (NT F sz) 0 j e
          exact ⟨j, by omega, this.2.2⟩
    · intro j e
      have := FKr_some (NT F sz) 0 j e
      exact i2 j (by omega) this.2.2
  | succ r ih =>
    intro k th gp gl hk i1 i2 i3
    have b1 : T_n F sz k < 4294967296 := U32_lt hb 0 sz (12 + 16 * k)
    refine q_at o_Mo_findTables [12, 109] 20 l_Mo_findTables_12 ?_
    simp -implicitDefEqProofs only [s_go, s_nil, s_cons, q_ins, s_op, s_i, s_j, s_a, s_v, s_li, s_lj, s_la, s_liO, s_ljO, s_laO, q_get, q_p1, q_p2, s_n2i, s_n2r, s_n2l, s_n2n, q_pad, q_ar, s_ob, s_obO, q_nth, s_ri, s_riO, s_rb, s_rbO, s_rzO, s_rl, s_rlO, s_rq, s_rqO, s_ry, s_ryO, s_dn, s_tl, s_tn, s_ap, s_an, s_ci, s_cr, s_ni, s_n0, s_n1, q_ags, q_cat, List.contains_nil, List.contains_cons, Nat.reduceBEq, Bool.or_false, Bool.false_or, Bool.true_or, Bool.false_eq_true, ↓reduceIte, Nat.le_refl, Nat.zero_le, true_and, and_true, Nat.reduceLeDiff, Nat.reduceAdd, Nat.add_zero, Nat.zero_add, List.length_cons, List.length_nil, List.set_cons_zero, List.set_cons_succ, Nat.reduceLT, s_fi, s_fl, s_fo, s_fa, s_f0, s_f1, s_set, s_ss, lg_cmp_ge, lg_cmp_le, lg_cmp_gt, lg_cmp_lt, lg_cmp_eq, s_brT, s_brF, s_10, w_Mo_findTables, r_Mo_findTables, l_Mo_findTables_0, l_Mo_findTables_2, l_Mo_findTables_12, l_Mo_findTables_103, l_Mo_findTables_109, l_Mo_findTables_120, kc_0, kb_7, ml_8_141, w_Mo_tables, kl_8_147, kl_8_149, f_8_94, ml_8_135, w_Mo_u32, f_8_16, kc_1, f_8_19, kl_8_151, f_8_22, ml_8_109, w_Mo_need, Mh_y, Mh_1, Mh_s1, Mh_2, Mh_s2, Mh_3, Mh_s3, Mh_4, Mh_s4, Mh_5, Mh_s5, Mh_6, Mh_s6, Mh_7, Mh_s7, Mh_8, Mh_s8, Mh_9, Mh_s9, Mh_10, Mh_s10, Mh_11, Mh_s11, Mh_12, Mh_s12, Mh_13, Mh_s13, Mh_14, Mh_s14, Mh_15, Mh_s15, Mh_16, Mh_s16, Mh_17, Mh_s17, Mh_18, Mh_s18, Mh_19, Mh_s19, Mh_20, Mh_s20, Mh_21, Mh_s21, Mh_22, Mh_s22, Mh_23, Mh_s23, Mh_24, Mh_s24, Mh_p]
    refine q_c0 (Nat.le_refl _) (Nat.le_refl _) ?_
    refine c_Mo_tables hF.p hs ?_
    rw [b_df bb (by omega)]
    simp -implicitDefEqProofs only [s_go, s_nil, s_cons, q_ins, s_op, s_i, s_j, s_a, s_v, s_li, s_lj, s_la, s_liO, s_ljO, s_laO, q_get, q_p1, q_p2, s_n2i, s_n2r, s_n2l, s_n2n, q_pad, q_ar, s_ob, s_obO, q_nth, s_ri, s_riO, s_rb, s_rbO, s_rzO, s_rl, s_rlO, s_rq, s_rqO, s_ry, s_ryO, s_dn, s_tl, s_tn, s_ap, s_an, s_ci, s_cr, s_ni, s_n0, s_n1, q_ags, q_cat, List.contains_nil, List.contains_cons, Nat.reduceBEq, Bool.or_false, Bool.false_or, Bool.true_or, Bool.false_eq_true, ↓reduceIte, Nat.le_refl, Nat.zero_le, true_and, and_true, Nat.reduceLeDiff, Nat.reduceAdd, Nat.add_zero, Nat.zero_add, List.length_cons, List.length_nil, List.set_cons_zero, List.set_cons_succ, Nat.reduceLT, s_fi, s_fl, s_fo, s_fa, s_f0, s_f1, s_set, s_ss, lg_cmp_ge, lg_cmp_le, lg_cmp_gt, lg_cmp_lt, lg_cmp_eq, s_brT, s_brF, s_10, w_Mo_findTables, r_Mo_findTables, l_Mo_findTables_0, l_Mo_findTables_2, l_Mo_findTables_12, l_Mo_findTables_103, l_Mo_findTables_109, l_Mo_findTables_120, kc_0, kb_7, ml_8_141, w_Mo_tables, kl_8_147, kl_8_149, f_8_94, ml_8_135, w_Mo_u32, f_8_16, kc_1, f_8_19, kl_8_151, f_8_22, ml_8_109, w_Mo_need, Mh_y, Mh_1, Mh_s1, Mh_2, Mh_s2, Mh_3, Mh_s3, Mh_4, Mh_s4, Mh_5, Mh_s5, Mh_6, Mh_s6, Mh_7, Mh_s7, Mh_8, Mh_s8, Mh_9, Mh_s9, Mh_10, Mh_s10, Mh_11, Mh_s11, Mh_12, Mh_s12, Mh_13, Mh_s13, Mh_14, Mh_s14, Mh_15, Mh_s15, Mh_16, Mh_s16, Mh_17, Mh_s17, Mh_18, Mh_s18, Mh_19, Mh_s19, Mh_20, Mh_s20, Mh_21, Mh_s21, Mh_22, Mh_s22, Mh_23, Mh_s23, Mh_24, Mh_s24, Mh_p, show (nI (NT F sz) ≤ nI k) = False from eq_false (fun c => absurd ((nI_leI (by omega) (by omega)).mp c) (by omega)), nI_l (show sz < 2 ^ 31 by omega), nI_l (show k < 2 ^ 31 by omega), show (16 : Int64) * lN k = lN (16 * k) from lN_mul 16 k, show (12 : Int64) + lN (16 * k) = lN (12 + 16 * k) from lN_add 12 _]
    refine q_c0 (Nat.le_refl _) (Nat.le_refl _) ?_
    refine c_Mo_u32 (w := 0) hF.p hb (by omega) hs (by omega) ?_
    rw [b_df bb (by omega)]
    have n3 : Mp h y gp gl (y + 3) = some (.inl (0, 7, .inl gn)) := (Mp_n (by omega) (by omega)).trans hn
    simp -implicitDefEqProofs only [s_go, s_nil, s_cons, q_ins, s_op, s_i, s_j, s_a, s_v, s_li, s_lj, s_la, s_liO, s_ljO, s_laO, q_get, q_p1, q_p2, s_n2i, s_n2r, s_n2l, s_n2n, q_pad, q_ar, s_ob, s_obO, q_nth, s_ri, s_riO, s_rb, s_rbO, s_rzO, s_rl, s_rlO, s_rq, s_rqO, s_ry, s_ryO, s_dn, s_tl, s_tn, s_ap, s_an, s_ci, s_cr, s_ni, s_n0, s_n1, q_ags, q_cat, List.contains_nil, List.contains_cons, Nat.reduceBEq, Bool.or_false, Bool.false_or, Bool.true_or, Bool.false_eq_true, ↓reduceIte, Nat.le_refl, Nat.zero_le, true_and, and_true, Nat.reduceLeDiff, Nat.reduceAdd, Nat.add_zero, Nat.zero_add, List.length_cons, List.length_nil, List.set_cons_zero, List.set_cons_succ, Nat.reduceLT, s_fi, s_fl, s_fo, s_fa, s_f0, s_f1, s_set, s_ss, lg_cmp_ge, lg_cmp_le, lg_cmp_gt, lg_cmp_lt, lg_cmp_eq, s_brT, s_brF, s_10, w_Mo_findTables, r_Mo_findTables, l_Mo_findTables_0, l_Mo_findTables_2, l_Mo_findTables_12, l_Mo_findTables_103, l_Mo_findTables_109, l_Mo_findTables_120, kc_0, kb_7, ml_8_141, w_Mo_tables, kl_8_147, kl_8_149, f_8_94, ml_8_135, w_Mo_u32, f_8_16, kc_1, f_8_19, kl_8_151, f_8_22, ml_8_109, w_Mo_need, Mh_y, Mh_1, Mh_s1, Mh_2, Mh_s2, Mh_3, Mh_s3, Mh_4, Mh_s4, Mh_5, Mh_s5, Mh_6, Mh_s6, Mh_7, Mh_s7, Mh_8, Mh_s8, Mh_9, Mh_s9, Mh_10, Mh_s10, Mh_11, Mh_s11, Mh_12, Mh_s12, Mh_13, Mh_s13, Mh_14, Mh_s14, Mh_15, Mh_s15, Mh_16, Mh_s16, Mh_17, Mh_s17, Mh_18, Mh_s18, Mh_19, Mh_s19, Mh_20, Mh_s20, Mh_21, Mh_s21, Mh_22, Mh_s22, Mh_23, Mh_s23, Mh_24, Mh_s24, Mh_p, n3, nI_clamp (show t < 2 ^ 31 by omega), hnv t ht, nI_l hnl, nI_l (show sz < 2 ^ 31 by omega)]
    refine ⟨vp_in_nI (by omega) (by omega), ⟨fun c => ?_, fun c => ?_⟩⟩
    · have c : T_n F sz k = nms.getD t 0 := (pk_lEQ (a := T_n F sz k) (by omega) (by omega)).mp c
      rw [show lN (12 + 16 * k) + 8 = lN (12 + 16 * k + 8) from lN_add _ 8]
      refine q_c0 (Nat.le_refl _) (Nat.le_refl _) ?_
      refine c_Mo_u32 (w := 0) hF.p hb (by omega) hs (by omega) ?_
      rw [b_df bb (by omega)]
      simp -implicitDefEqProofs only [s_go, s_nil, s_cons, q_ins, s_op, s_i, s_j, s_a, s_v, s_li, s_lj, s_la, s_liO, s_ljO, s_laO, q_get, q_p1, q_p2, s_n2i, s_n2r, s_n2l, s_n2n, q_pad, q_ar, s_ob, s_obO, q_nth, s_ri, s_riO, s_rb, s_rbO, s_rzO, s_rl, s_rlO, s_rq, s_rqO, s_ry, s_ryO, s_dn, s_tl, s_tn, s_ap, s_an, s_ci, s_cr, s_ni, s_n0, s_n1, q_ags, q_cat, List.contains_nil, List.contains_cons, Nat.reduceBEq, Bool.or_false, Bool.false_or, Bool.true_or, Bool.false_eq_true, ↓reduceIte, Nat.le_refl, Nat.zero_le, true_and, and_true, Nat.reduceLeDiff, Nat.reduceAdd, Nat.add_zero, Nat.zero_add, List.length_cons, List.length_nil, List.set_cons_zero, List.set_cons_succ, Nat.reduceLT, s_fi, s_fl, s_fo, s_fa, s_f0, s_f1, s_set, s_ss, lg_cmp_ge, lg_cmp_le, lg_cmp_gt, lg_cmp_lt, lg_cmp_eq, s_brT, s_brF, s_10, w_Mo_findTables, r_Mo_findTables, l_Mo_findTables_0, l_Mo_findTables_2, l_Mo_findTables_12, l_Mo_findTables_103, l_Mo_findTables_109, l_Mo_findTables_120, kc_0, kb_7, ml_8_141, w_Mo_tables, kl_8_147, kl_8_149, f_8_94, ml_8_135, w_Mo_u32, f_8_16, kc_1, f_8_19, kl_8_151, f_8_22, ml_8_109, w_Mo_need, Mh_y, Mh_1, Mh_s1, Mh_2, Mh_s2, Mh_3, Mh_s3, Mh_4, Mh_s4, Mh_5, Mh_s5, Mh_6, Mh_s6, Mh_7, Mh_s7, Mh_8, Mh_s8, Mh_9, Mh_s9, Mh_10, Mh_s10, Mh_11, Mh_s11, Mh_12, Mh_s12, Mh_13, Mh_s13, Mh_14, Mh_s14, Mh_15, Mh_s15, Mh_16, Mh_s16, Mh_17, Mh_s17, Mh_18, Mh_s18, Mh_19, Mh_s19, Mh_20, Mh_s20, Mh_21, Mh_s21, Mh_22, Mh_s22, Mh_23, Mh_s23, Mh_24, Mh_s24, Mh_p, Mp_4, Mp_5, Mp_s4, Mp_s5, lN_i, nI_clamp (show t < 2 ^ 31 by omega), nI_l (show sz < 2 ^ 31 by omega)]
      refine ⟨vp_in_nI (by omega) (by omega), ?_⟩
      rw [show lN (12 + 16 * k) + 12 = lN (12 + 16 * k + 12) from lN_add _ 12]
      refine q_c0 (Nat.le_refl _) (Nat.le_refl _) ?_
      refine c_Mo_u32 (w := 0) hF.p hb (by omega) hs (by omega) ?_
      rw [b_df bb (by omega)]
      simp -implicitDefEqProofs only [s_go, s_nil, s_cons, q_ins, s_op, s_i, s_j, s_a, s_v, s_li, s_lj, s_la, s_liO, s_ljO, s_laO, q_get, q_p1, q_p2, s_n2i, s_n2r, s_n2l, s_n2n, q_pad, q_ar, s_ob, s_obO, q_nth, s_ri, s_riO, s_rb, s_rbO, s_rzO, s_rl, s_rlO, s_rq, s_rqO, s_ry, s_ryO, s_dn, s_tl, s_tn, s_ap, s_an, s_ci, s_cr, s_ni, s_n0, s_n1, q_ags, q_cat, List.contains_nil, List.contains_cons, Nat.reduceBEq, Bool.or_false, Bool.false_or, Bool.true_or, Bool.false_eq_true, ↓reduceIte, Nat.le_refl, Nat.zero_le, true_and, and_true, Nat.reduceLeDiff, Nat.reduceAdd, Nat.add_zero, Nat.zero_add, List.length_cons, List.length_nil, List.set_cons_zero, List.set_cons_succ, Nat.reduceLT, s_fi, s_fl, s_fo, s_fa, s_f0, s_f1, s_set, s_ss, lg_cmp_ge, lg_cmp_le, lg_cmp_gt, lg_cmp_lt, lg_cmp_eq, s_brT, s_brF, s_10, w_Mo_findTables, r_Mo_findTables, l_Mo_findTables_0, l_Mo_findTables_2, l_Mo_findTables_12, l_Mo_findTables_103, l_Mo_findTables_109, l_Mo_findTables_120, kc_0, kb_7, ml_8_141, w_Mo_tables, kl_8_147, kl_8_149, f_8_94, ml_8_135, w_Mo_u32, f_8_16, kc_1, f_8_19, kl_8_151, f_8_22, ml_8_109, w_Mo_need, Mh_y, Mh_1, Mh_s1, Mh_2, Mh_s2, Mh_3, Mh_s3, Mh_4, Mh_s4, Mh_5, Mh_s5, Mh_6, Mh_s6, Mh_7, Mh_s7, Mh_8, Mh_s8, Mh_9, Mh_s9, Mh_10, Mh_s10, Mh_11, Mh_s11, Mh_12, Mh_s12, Mh_13, Mh_s13, Mh_14, Mh_s14, Mh_15, Mh_s15, Mh_16, Mh_s16, Mh_17, Mh_s17, Mh_18, Mh_s18, Mh_19, Mh_s19, Mh_20, Mh_s20, Mh_21, Mh_s21, Mh_22, Mh_s22, Mh_23, Mh_s23, Mh_24, Mh_s24, Mh_p, Mp_4, Mp_5, Mp_s4, Mp_s5, lN_i, nI_clamp (show t < 2 ^ 31 by omega), nI_1]
      refine ⟨vp_in_nI (by omega) (by omega), ?_⟩
      refine q_wk (ih (k + 1) true _ _ (by omega) ⟨fun _ => ⟨k, by omega, c⟩, fun _ => rfl⟩ (fun j hj ej => ?_) (fun j hj => ?_)) ⟨rfl, rfl, rfl, rfl, trivial⟩
      · have : j = k := T_inj hf (by omega) (by omega) (ej.trans c.symm)
        subst this
        exact ⟨pk_us, pk_us⟩
      · exact ⟨(pk_un hj).trans (i3 j hj).1, (pk_un hj).trans (i3 j hj).2⟩
    · have c : T_n F sz k ≠ nms.getD t 0 := fun z => c ((pk_lEQ (a := T_n F sz k) (by omega) (by omega)).mpr z)
      rw [nI_1]
      refine q_wk (ih (k + 1) th gp gl (by omega) ?_ (fun j hj ej => ?_) i3) ⟨rfl, rfl, rfl, rfl, trivial⟩
      · rw [i1]
        constructor
        · rintro ⟨j, a, b⟩
          exact ⟨j, by omega, b⟩
        · rintro ⟨j, a, b⟩
          rcases Nat.lt_or_ge j k with z | z
          · exact ⟨j, z, b⟩
          · rw [show j = k by omega] at b
            exact absurd b c
      · rcases Nat.lt_or_ge j k with z | z
        · exact i2 j z ej
        · rw [show j = k by omega] at ej
          exact absurd ej c
set_option maxRecDepth 100000 in
set_option maxHeartbeats 4000000 in
theorem z_Mo_findTables {G : q_G} {l : Launch} {d y n sz : Nat} {fa fo wi pr le : Int32} {F : Nat → Nat} {h : q_H} {Q : q_P} (hF : MoF h y 0 F sz) (hN : MoN h y) (hb : ∀ j, F j < 256) (hs : sz ≤ 16384) (hf : FILE_ok F sz) {gp0 gl0 : Nat → Int32}
    (q1 : TAB_ok F sz → ∀ gp gl : Nat → Int32, (∀ t, t < 7 → gp t = nI (TB F sz t).1 ∧ gl t = nI (TB F sz t).2) → (∀ j, 7 ≤ j → gp j = gp0 j ∧ gl j = gl0 j) → Q none (Mh (Mp h y gp gl) y fa (nI sz) fo wi 0 (bI false) pr le) n)
    (q0 : ¬ TAB_ok F sz → ∀ gp gl : Nat → Int32, (∀ j, 7 ≤ j → gp j = gp0 j ∧ gl j = gl0 j) → Q none (Mh (Mp h y gp gl) y fa (nI sz) fo wi 0 (bI true) pr le) n) :
    ∀ (r t : Nat) (bb : Bool) (gp gl : Nat → Int32), t + r = 7 → (bb = false ↔ ∀ i, i < t → FK F sz (nms.getD i 0) ≠ none) → (∀ i j, i < t → FK F sz (nms.getD i 0) = some j → gp i = nI (T_p F sz j) ∧ gl i = nI (T_l F sz j)) → (∀ j, 7 ≤ j → gp j = gp0 j ∧ gl j = gl0 j) → q_Z G l M_Mo_findTables (d + 4) 0 0 Q 2 [some (.ref y), some (.int (nI t)), none, none, none, none] [] (Mh (Mp h y gp gl) y fa (nI sz) fo wi 0 (bI bb) pr le) n 0 0 := by
  intro r
  induction r with
  | zero =>
    intro t bb gp gl ht i1 i2 i3
    have e : t = 7 := by omega
    subst e
    refine q_at o_Mo_findTables [2, 12] 20 l_Mo_findTables_2 ?_
    simp -implicitDefEqProofs only [s_go, s_nil, s_cons, q_ins, s_op, s_i, s_j, s_a, s_v, s_li, s_lj, s_la, s_liO, s_ljO, s_laO, q_get, q_p1, q_p2, s_n2i, s_n2r, s_n2l, s_n2n, q_pad, q_ar, s_ob, s_obO, q_nth, s_ri, s_riO, s_rb, s_rbO, s_rzO, s_rl, s_rlO, s_rq, s_rqO, s_ry, s_ryO, s_dn, s_tl, s_tn, s_ap, s_an, s_ci, s_cr, s_ni, s_n0, s_n1, q_ags, q_cat, List.contains_nil, List.contains_cons, Nat.reduceBEq, Bool.or_false, Bool.false_or, Bool.true_or, Bool.false_eq_true, ↓reduceIte, Nat.le_refl, Nat.zero_le, true_and, and_true, Nat.reduceLeDiff, Nat.reduceAdd, Nat.add_zero, Nat.zero_add, List.length_cons, List.length_nil, List.set_cons_zero, List.set_cons_succ, Nat.reduceLT, s_fi, s_fl, s_fo, s_fa, s_f0, s_f1, s_set, s_ss, lg_cmp_ge, lg_cmp_le, lg_cmp_gt, lg_cmp_lt, lg_cmp_eq, s_brT, s_brF, s_10, w_Mo_findTables, r_Mo_findTables, l_Mo_findTables_0, l_Mo_findTables_2, l_Mo_findTables_12, l_Mo_findTables_103, l_Mo_findTables_109, l_Mo_findTables_120, kc_0, kb_7, ml_8_141, w_Mo_tables, kl_8_147, kl_8_149, f_8_94, ml_8_135, w_Mo_u32, f_8_16, kc_1, f_8_19, kl_8_151, f_8_22, ml_8_109, w_Mo_need, Mh_y, Mh_1, Mh_s1, Mh_2, Mh_s2, Mh_3, Mh_s3, Mh_4, Mh_s4, Mh_5, Mh_s5, Mh_6, Mh_s6, Mh_7, Mh_s7, Mh_8, Mh_s8, Mh_9, Mh_s9, Mh_10, Mh_s10, Mh_11, Mh_s11, Mh_12, Mh_s12, Mh_13, Mh_s13, Mh_14, Mh_s14, Mh_15, Mh_s15, Mh_16, Mh_s16, Mh_17, Mh_s17, Mh_18, Mh_s18, Mh_19, Mh_s19, Mh_20, Mh_s20, Mh_21, Mh_s21, Mh_22, Mh_s22, Mh_23, Mh_s23, Mh_24, Mh_s24, Mh_p, show ((7 : Int32) ≤ nI 7) = True from eq_true (by decide)]
    have tab : TAB_ok F sz ↔ ∀ i, i < 7 → FK F sz (nms.getD i 0) ≠ none := by
      constructor
      · intro z i hi
        refine z _ ?_
        match i, hi with
        | 0, _ => simp [nms]
        | 1, _ => simp [nms]
        | 2, _ => simp [nms]
        | 3, _ => simp [nms]
        | 4, _ => simp [nms]
        | 5, _ => simp [nms]
        | 6, _ => simp [nms]
      · intro z nm hm
        simp only [nms, List.mem_cons, List.not_mem_nil, or_false] at hm
        rcases hm with rfl | rfl | rfl | rfl | rfl | rfl | rfl
        · exact z 0 (by omega)
        · exact z 1 (by omega)
        · exact z 2 (by omega)
        · exact z 3 (by omega)
        · exact z 4 (by omega)
        · exact z 5 (by omega)
        · exact z 6 (by omega)
    cases bb
    · have tt := i1.mp rfl
      refine q1 (tab.mpr tt) gp gl (fun t ht => ?_) i3
      cases e : FK F sz (nms.getD t 0) with
      | none => exact absurd e (tt t ht)
      | some j =>
        have := i2 t j ht e
        rw [show TB F sz t = (T_p F sz j, T_l F sz j) by unfold TB TT; rw [e]]
        exact this
    · exact q0 (fun z => Bool.false_ne_true (i1.mpr (tab.mp z)).symm) gp gl i3
  | succ r ih =>
    intro t bb gp gl ht i1 i2 i3
    refine q_at o_Mo_findTables [2, 12] 20 l_Mo_findTables_2 ?_
    simp -implicitDefEqProofs only [s_go, s_nil, s_cons, q_ins, s_op, s_i, s_j, s_a, s_v, s_li, s_lj, s_la, s_liO, s_ljO, s_laO, q_get, q_p1, q_p2, s_n2i, s_n2r, s_n2l, s_n2n, q_pad, q_ar, s_ob, s_obO, q_nth, s_ri, s_riO, s_rb, s_rbO, s_rzO, s_rl, s_rlO, s_rq, s_rqO, s_ry, s_ryO, s_dn, s_tl, s_tn, s_ap, s_an, s_ci, s_cr, s_ni, s_n0, s_n1, q_ags, q_cat, List.contains_nil, List.contains_cons, Nat.reduceBEq, Bool.or_false, Bool.false_or, Bool.true_or, Bool.false_eq_true, ↓reduceIte, Nat.le_refl, Nat.zero_le, true_and, and_true, Nat.reduceLeDiff, Nat.reduceAdd, Nat.add_zero, Nat.zero_add, List.length_cons, List.length_nil, List.set_cons_zero, List.set_cons_succ, Nat.reduceLT, s_fi, s_fl, s_fo, s_fa, s_f0, s_f1, s_set, s_ss, lg_cmp_ge, lg_cmp_le, lg_cmp_gt, lg_cmp_lt, lg_cmp_eq, s_brT, s_brF, s_10, w_Mo_findTables, r_Mo_findTables, l_Mo_findTables_0, l_Mo_findTables_2, l_Mo_findTables_12, l_Mo_findTables_103, l_Mo_findTables_109, l_Mo_findTables_120, kc_0, kb_7, ml_8_141, w_Mo_tables, kl_8_147, kl_8_149, f_8_94, ml_8_135, w_Mo_u32, f_8_16, kc_1, f_8_19, kl_8_151, f_8_22, ml_8_109, w_Mo_need, Mh_y, Mh_1, Mh_s1, Mh_2, Mh_s2, Mh_3, Mh_s3, Mh_4, Mh_s4, Mh_5, Mh_s5, Mh_6, Mh_s6, Mh_7, Mh_s7, Mh_8, Mh_s8, Mh_9, Mh_s9, Mh_10, Mh_s10, Mh_11, Mh_s11, Mh_12, Mh_s12, Mh_13, Mh_s13, Mh_14, Mh_s14, Mh_15, Mh_s15, Mh_16, Mh_s16, Mh_17, Mh_s17, Mh_18, Mh_s18, Mh_19, Mh_s19, Mh_20, Mh_s20, Mh_21, Mh_s21, Mh_22, Mh_s22, Mh_23, Mh_s23, Mh_24, Mh_s24, Mh_p, show ((7 : Int32) ≤ nI t) = False from eq_false (fun c => absurd ((nI_leI (a := 7) (by omega) (by omega)).mp c) (by omega))]
    refine q_wk (y_Mo_findTables (gp0 := gp) (gl0 := gl) hF hN hb hs hf (show t < 7 by omega) (fun th gp' gl' e1 e2 e3 => ?_) (NT F sz) 0 false gp gl (by omega) ⟨fun z => (by cases z), fun z => ?_⟩ (fun j hj => absurd hj (by omega)) (fun j _ => ⟨rfl, rfl⟩)) ⟨rfl, rfl, rfl, rfl, trivial⟩
    · refine q_at o_Mo_findTables [2] 20 l_Mo_findTables_109 ?_
      simp -implicitDefEqProofs only [s_go, s_nil, s_cons, q_ins, s_op, s_i, s_j, s_a, s_v, s_li, s_lj, s_la, s_liO, s_ljO, s_laO, q_get, q_p1, q_p2, s_n2i, s_n2r, s_n2l, s_n2n, q_pad, q_ar, s_ob, s_obO, q_nth, s_ri, s_riO, s_rb, s_rbO, s_rzO, s_rl, s_rlO, s_rq, s_rqO, s_ry, s_ryO, s_dn, s_tl, s_tn, s_ap, s_an, s_ci, s_cr, s_ni, s_n0, s_n1, q_ags, q_cat, List.contains_nil, List.contains_cons, Nat.reduceBEq, Bool.or_false, Bool.false_or, Bool.true_or, Bool.false_eq_true, ↓reduceIte, Nat.le_refl, Nat.zero_le, true_and, and_true, Nat.reduceLeDiff, Nat.reduceAdd, Nat.add_zero, Nat.zero_add, List.length_cons, List.length_nil, List.set_cons_zero, List.set_cons_succ, Nat.reduceLT, s_fi, s_fl, s_fo, s_fa, s_f0, s_f1, s_set, s_ss, lg_cmp_ge, lg_cmp_le, lg_cmp_gt, lg_cmp_lt, lg_cmp_eq, s_brT, s_brF, s_10, w_Mo_findTables, r_Mo_findTables, l_Mo_findTables_0, l_Mo_findTables_2, l_Mo_findTables_12, l_Mo_findTables_103, l_Mo_findTables_109, l_Mo_findTables_120, kc_0, kb_7, ml_8_141, w_Mo_tables, kl_8_147, kl_8_149, f_8_94, ml_8_135, w_Mo_u32, f_8_16, kc_1, f_8_19, kl_8_151, f_8_22, ml_8_109, w_Mo_need, Mh_y, Mh_1, Mh_s1, Mh_2, Mh_s2, Mh_3, Mh_s3, Mh_4, Mh_s4, Mh_5, Mh_s5, Mh_6, Mh_s6, Mh_7, Mh_s7, Mh_8, Mh_s8, Mh_9, Mh_s9, Mh_10, Mh_s10, Mh_11, Mh_s11, Mh_12, Mh_s12, Mh_13, Mh_s13, Mh_14, Mh_s14, Mh_15, Mh_s15, Mh_16, Mh_s16, Mh_17, Mh_s17, Mh_18, Mh_s18, Mh_19, Mh_s19, Mh_20, Mh_s20, Mh_21, Mh_s21, Mh_22, Mh_s22, Mh_23, Mh_s23, Mh_24, Mh_s24, Mh_p]
      refine q_c0 (Nat.le_refl _) (Nat.le_refl _) ?_
      refine c_Mo_need rfl ?_
      simp -implicitDefEqProofs only [s_go, s_nil, s_cons, q_ins, s_op, s_i, s_j, s_a, s_v, s_li, s_lj, s_la, s_liO, s_ljO, s_laO, q_get, q_p1, q_p2, s_n2i, s_n2r, s_n2l, s_n2n, q_pad, q_ar, s_ob, s_obO, q_nth, s_ri, s_riO, s_rb, s_rbO, s_rzO, s_rl, s_rlO, s_rq, s_rqO, s_ry, s_ryO, s_dn, s_tl, s_tn, s_ap, s_an, s_ci, s_cr, s_ni, s_n0, s_n1, q_ags, q_cat, List.contains_nil, List.contains_cons, Nat.reduceBEq, Bool.or_false, Bool.false_or, Bool.true_or, Bool.false_eq_true, ↓reduceIte, Nat.le_refl, Nat.zero_le, true_and, and_true, Nat.reduceLeDiff, Nat.reduceAdd, Nat.add_zero, Nat.zero_add, List.length_cons, List.length_nil, List.set_cons_zero, List.set_cons_succ, Nat.reduceLT, s_fi, s_fl, s_fo, s_fa, s_f0, s_f1, s_set, s_ss, lg_cmp_ge, lg_cmp_le, lg_cmp_gt, lg_cmp_lt, lg_cmp_eq, s_brT, s_brF, s_10, w_Mo_findTables, r_Mo_findTables, l_Mo_findTables_0, l_Mo_findTables_2, l_Mo_findTables_12, l_Mo_findTables_103, l_Mo_findTables_109, l_Mo_findTables_120, kc_0, kb_7, ml_8_141, w_Mo_tables, kl_8_147, kl_8_149, f_8_94, ml_8_135, w_Mo_u32, f_8_16, kc_1, f_8_19, kl_8_151, f_8_22, ml_8_109, w_Mo_need, Mh_y, Mh_1, Mh_s1, Mh_2, Mh_s2, Mh_3, Mh_s3, Mh_4, Mh_s4, Mh_5, Mh_s5, Mh_6, Mh_s6, Mh_7, Mh_s7, Mh_8, Mh_s8, Mh_9, Mh_s9, Mh_10, Mh_s10, Mh_11, Mh_s11, Mh_12, Mh_s12, Mh_13, Mh_s13, Mh_14, Mh_s14, Mh_15, Mh_s15, Mh_16, Mh_s16, Mh_17, Mh_s17, Mh_18, Mh_s18, Mh_19, Mh_s19, Mh_20, Mh_s20, Mh_21, Mh_s21, Mh_22, Mh_s22, Mh_23, Mh_s23, Mh_24, Mh_s24, Mh_p, nI_1]
      refine q_wk (ih (t + 1) (bb || !th) gp' gl' (by omega) ?_ (fun i j hi ej => ?_) (fun j hj => ?_)) ⟨rfl, rfl, trivial⟩
      · rw [Bool.or_eq_false_iff, i1, Bool.not_eq_false', e1]
        constructor
        · intro z i hi
          rcases Nat.lt_or_ge i t with y | y
          · exact z.1 i y
          · rw [show i = t by omega]; exact z.2
        · exact fun z => ⟨fun j hj => z j (by omega), z t (by omega)⟩
      · rcases Nat.lt_or_ge i t with y | y
        · rw [(e3 i (by omega)).1, (e3 i (by omega)).2]
          exact i2 i j y ej
        · have : i = t := by omega
          subst this
          exact e2 j ej
      · rw [(e3 j (by omega)).1, (e3 j (by omega)).2]
        exact i3 j hj
    · obtain ⟨j, hj, -⟩ := z
      exact absurd hj (by omega)
set_option maxRecDepth 100000 in
set_option maxHeartbeats 4000000 in
theorem c_Mo_findTables {G : q_G} {l : Launch} {d y n sz : Nat} {fa fo wi pr le : Int32} {F : Nat → Nat} {h : q_H} {Q : q_P} (hF : MoF h y 0 F sz) (hN : MoN h y) (hb : ∀ j, F j < 256) (hs : sz ≤ 16384) (hf : FILE_ok F sz) {gp0 gl0 : Nat → Int32} (h4 : h (y + 4) = some (.inl (0, 16, .inl gp0))) (h5 : h (y + 5) = some (.inl (0, 16, .inl gl0)))
    (q1 : TAB_ok F sz → ∀ gp gl : Nat → Int32, (∀ t, t < 7 → gp t = nI (TB F sz t).1 ∧ gl t = nI (TB F sz t).2) → (∀ j, 7 ≤ j → gp j = gp0 j ∧ gl j = gl0 j) → Q none (Mh (Mp h y gp gl) y fa (nI sz) fo wi 0 (bI false) pr le) n)
    (q0 : ¬ TAB_ok F sz → ∀ gp gl : Nat → Int32, (∀ j, 7 ≤ j → gp j = gp0 j ∧ gl j = gl0 j) → Q none (Mh (Mp h y gp gl) y fa (nI sz) fo wi 0 (bI true) pr le) n) : q_Call G l M_Mo_findTables (d + 4) 0 0 [.ref y] (Mh h y fa (nI sz) fo wi 0 (bI false) pr le) n Q := by
  have e := Mp_id h4 h5
  refine q_in u_Mo_findTables (by rw [L_Mo_findTables]; exact Nat.le_of_ble_eq_true rfl) ?_
  rw [L_Mo_findTables]
  refine q_at o_Mo_findTables [2] 20 l_Mo_findTables_0 ?_
  simp -implicitDefEqProofs only [s_go, s_nil, s_cons, q_ins, s_op, s_i, s_j, s_a, s_v, s_li, s_lj, s_la, s_liO, s_ljO, s_laO, q_get, q_p1, q_p2, s_n2i, s_n2r, s_n2l, s_n2n, q_pad, q_ar, s_ob, s_obO, q_nth, s_ri, s_riO, s_rb, s_rbO, s_rzO, s_rl, s_rlO, s_rq, s_rqO, s_ry, s_ryO, s_dn, s_tl, s_tn, s_ap, s_an, s_ci, s_cr, s_ni, s_n0, s_n1, q_ags, q_cat, List.contains_nil, List.contains_cons, Nat.reduceBEq, Bool.or_false, Bool.false_or, Bool.true_or, Bool.false_eq_true, ↓reduceIte, Nat.le_refl, Nat.zero_le, true_and, and_true, Nat.reduceLeDiff, Nat.reduceAdd, Nat.add_zero, Nat.zero_add, List.length_cons, List.length_nil, List.set_cons_zero, List.set_cons_succ, Nat.reduceLT, s_fi, s_fl, s_fo, s_fa, s_f0, s_f1, s_set, s_ss, lg_cmp_ge, lg_cmp_le, lg_cmp_gt, lg_cmp_lt, lg_cmp_eq, s_brT, s_brF, s_10, w_Mo_findTables, r_Mo_findTables, l_Mo_findTables_0, l_Mo_findTables_2, l_Mo_findTables_12, l_Mo_findTables_103, l_Mo_findTables_109, l_Mo_findTables_120, kc_0, kb_7, ml_8_141, w_Mo_tables, kl_8_147, kl_8_149, f_8_94, ml_8_135, w_Mo_u32, f_8_16, kc_1, f_8_19, kl_8_151, f_8_22, ml_8_109, w_Mo_need, Mh_y, Mh_1, Mh_s1, Mh_2, Mh_s2, Mh_3, Mh_s3, Mh_4, Mh_s4, Mh_5, Mh_s5, Mh_6, Mh_s6, Mh_7, Mh_s7, Mh_8, Mh_s8, Mh_9, Mh_s9, Mh_10, Mh_s10, Mh_11, Mh_s11, Mh_12, Mh_s12, Mh_13, Mh_s13, Mh_14, Mh_s14, Mh_15, Mh_s15, Mh_16, Mh_s16, Mh_17, Mh_s17, Mh_18, Mh_s18, Mh_19, Mh_s19, Mh_20, Mh_s20, Mh_21, Mh_s21, Mh_22, Mh_s22, Mh_23, Mh_s23, Mh_24, Mh_s24, Mh_p]
  have := z_Mo_findTables (l := l) (G := G) (d := d) (n := n) (fa := fa) (fo := fo) (wi := wi) (pr := pr) (le := le) hF hN hb hs hf q1 q0 7 0 false gp0 gl0 (by omega) ⟨fun _ i hi => absurd hi (by omega), fun _ => rfl⟩ (fun i j hi => absurd hi (by omega)) (fun j _ => ⟨rfl, rfl⟩)
  rw [e] at this
  exact this
