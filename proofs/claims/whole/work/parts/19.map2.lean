/-! CharacterMap: segments; isFound -/
/-- segments of the map at p, S of them: last and first of the k-th -/
def s_la' (F : Nat → Nat) (cs cl p k : Nat) : Nat := U16 F cs cl (p + 14 + 2 * k)
def s_fi' (F : Nat → Nat) (cs cl p S k : Nat) : Nat := U16 F cs cl (p + 16 + 2 * S + 2 * k)
def s_ok (F : Nat → Nat) (cs cl p S k : Nat) : Prop := (0 < k → s_la' F cs cl p (k - 1) < s_la' F cs cl p k) ∧ s_fi' F cs cl p S k ≤ s_la' F cs cl p k
def sg_D (F : Nat → Nat) (cs cl p : Nat) : Nat := U16 F cs cl (p + 6)
def SG_ok (F : Nat → Nat) (cs cl p : Nat) : Prop := p + 16 ≤ cl ∧ U16 F cs cl p = 4 ∧ 2 ≤ sg_D F cs cl p ∧ sg_D F cs cl p % 2 = 0 ∧ p + 16 + 4 * sg_D F cs cl p ≤ cl ∧ (∀ k, k < sg_D F cs cl p / 2 → s_ok F cs cl p (sg_D F cs cl p / 2) k) ∧ s_la' F cs cl p (sg_D F cs cl p / 2 - 1) = 65535
def q_sb (F : Nat → Nat) (cs cl p k : Nat) : Int32 := if k = 0 then -1 else nI (s_la' F cs cl p (k - 1))
theorem q_im1 {a : Nat} (h : a < 2 ^ 31) : ¬ nI a ≤ -1 := by
  rw [Int32.le_iff_toInt_le, nI_toInt h]
  show ¬ (a : Int) ≤ (-1 : Int32).toInt
  rw [show (-1 : Int32).toInt = -1 from rfl]
  omega
theorem q_sb_le {F : Nat → Nat} (hF : ∀ j, F j < 256) {cs cl p k : Nat} : (nI (s_la' F cs cl p k) ≤ q_sb F cs cl p k) ↔ ¬ (0 < k → s_la' F cs cl p (k - 1) < s_la' F cs cl p k) := by
  have b1 := U16_lt hF cs cl (p + 14 + 2 * k)
  have b2 := U16_lt hF cs cl (p + 14 + 2 * (k - 1))
  unfold q_sb
  by_cases hk : k = 0
  · subst hk
    rw [if_pos rfl]
    constructor
    · intro h; exact absurd h (q_im1 (by unfold s_la'; omega))
    · intro h; exact absurd (fun z => absurd z (by omega)) h
  · rw [if_neg hk, nI_leI (by unfold s_la'; omega) (by unfold s_la'; omega)]
    constructor
    · intro h z; have := z (by omega); omega
    · intro h
      rcases Nat.lt_or_ge (s_la' F cs cl p (k - 1)) (s_la' F cs cl p k) with q | q
      · exact absurd (fun _ => q) h
      · exact q
set_option maxRecDepth 100000 in
set_option maxHeartbeats 4000000 in
theorem z_Cm_hasSegments {G : q_G} {l : Launch} {d a tc f row m n sz cs cl p : Nat} {og x1 : Int32} {g : Nat → Int32} {F : Nat → Nat} {h : q_H} {Q : q_P} (hA : h a = some (e_Cm tc og (nI p) (nI (sg_D F cs cl p / 2)))) (hT : q_Ta h tc f cs cl) (hB : q_By h f row m g sz F) (hin : cs + cl ≤ sz) (hp : p ≤ 16384)
    (q1 : (∀ k, k < sg_D F cs cl p / 2 → s_ok F cs cl p (sg_D F cs cl p / 2) k) → s_la' F cs cl p (sg_D F cs cl p / 2 - 1) = 65535 → Q (some (.int 1)) h n) (q0 : ¬ ((∀ k, k < sg_D F cs cl p / 2 → s_ok F cs cl p (sg_D F cs cl p / 2) k) ∧ s_la' F cs cl p (sg_D F cs cl p / 2 - 1) = 65535) → Q (some (.int 0)) h n) (hS : 0 < sg_D F cs cl p / 2) :
    ∀ (r k : Nat), k + r = sg_D F cs cl p / 2 → (∀ j, j < k → s_ok F cs cl p (sg_D F cs cl p / 2) j) → q_Z G l M_Cm_hasSegments (d + 3) 0 0 Q 96 [some (.ref a), some (.int x1), some (.int (q_sb F cs cl p k)), some (.int (nI k)), none] [] h n 0 0 := by
  have hF := hB.2.2.2.2.2.2
  have bD : sg_D F cs cl p < 65536 := U16_lt hF cs cl (p + 6)
  have hA' := hA
  unfold e_Cm at hA'
  intro r
  induction r with
  | zero =>
    intro k hk hall
    have hk : k = sg_D F cs cl p / 2 := by omega
    have b2 := U16_lt hF cs cl (p + 14 + 2 * (k - 1))
    refine q_at o_Cm_hasSegments [96] 20 l_Cm_hasSegments_96 ?_
    simp -implicitDefEqProofs only [s_go, s_nil, s_cons, q_ins, s_op, s_i, s_j, s_a, s_v, s_li, s_lj, s_la, s_liO, s_ljO, s_laO, q_get, q_p1, q_p2, s_n2i, s_n2r, s_n2l, s_n2n, q_pad, q_ar, s_ob, s_obO, q_nth, s_ri, s_riO, s_rb, s_rbO, s_rzO, s_rl, s_rlO, s_rq, s_rqO, s_ry, s_ryO, s_dn, s_tl, s_tn, s_ap, s_an, s_ci, s_cr, s_ni, s_n0, s_n1, q_ags, q_cat, List.contains_nil, List.contains_cons, Nat.reduceBEq, Bool.or_false, Bool.false_or, Bool.true_or, Bool.false_eq_true, ↓reduceIte, Nat.le_refl, Nat.zero_le, true_and, and_true, Nat.reduceLeDiff, Nat.reduceAdd, Nat.add_zero, Nat.zero_add, List.length_cons, List.length_nil, List.set_cons_zero, List.set_cons_succ, Nat.reduceLT, s_fi, s_fl, s_fo, s_fa, s_f0, s_f1, s_set, s_ss, lg_cmp_ge, lg_cmp_le, lg_cmp_gt, lg_cmp_lt, lg_cmp_eq, s_brT, s_brF, s_10, w_Cm_hasSegments, r_Cm_hasSegments, l_Cm_hasSegments_0, l_Cm_hasSegments_33, l_Cm_hasSegments_35, l_Cm_hasSegments_83, l_Cm_hasSegments_85, l_Cm_hasSegments_96, l_Cm_hasSegments_127, l_Cm_hasSegments_129, l_Cm_hasSegments_138, l_Cm_hasSegments_148, l_Cm_hasSegments_149, f_1_9, f_1_19, kl_1_56, ml_1_34, w_Ta_holds, ml_1_26, w_Ta_u16, kc_4, kc_0, kb_6, kc_2, kb_16, f_1_23, ty_1_3, kc_m1, ml_1_64, w_Cm_lastOf, ml_1_67, w_Cm_firstOf, kc_1, ki_1_70, hA']
    refine ⟨fun _ => ?_, fun c => absurd (nI_le (by omega) (by omega)) c⟩
    unfold q_sb
    rw [if_neg (by omega), show (65535 : Int32) = nI 65535 from rfl, nI_eq (by unfold s_la'; omega) (by omega)]
    rw [hk]
    exact ⟨fun c => q1 (by rw [← hk]; exact (by rw [hk]; rw [hk] at hall; exact hall)) c, fun c => q0 (fun z => c z.2)⟩
  | succ r ih =>
    intro k hk hall
    have b1 := U16_lt hF cs cl (p + 14 + 2 * k)
    have b2 := U16_lt hF cs cl (p + 16 + 2 * (sg_D F cs cl p / 2) + 2 * k)
    refine q_at o_Cm_hasSegments [96] 20 l_Cm_hasSegments_96 ?_
    simp -implicitDefEqProofs only [s_go, s_nil, s_cons, q_ins, s_op, s_i, s_j, s_a, s_v, s_li, s_lj, s_la, s_liO, s_ljO, s_laO, q_get, q_p1, q_p2, s_n2i, s_n2r, s_n2l, s_n2n, q_pad, q_ar, s_ob, s_obO, q_nth, s_ri, s_riO, s_rb, s_rbO, s_rzO, s_rl, s_rlO, s_rq, s_rqO, s_ry, s_ryO, s_dn, s_tl, s_tn, s_ap, s_an, s_ci, s_cr, s_ni, s_n0, s_n1, q_ags, q_cat, List.contains_nil, List.contains_cons, Nat.reduceBEq, Bool.or_false, Bool.false_or, Bool.true_or, Bool.false_eq_true, ↓reduceIte, Nat.le_refl, Nat.zero_le, true_and, and_true, Nat.reduceLeDiff, Nat.reduceAdd, Nat.add_zero, Nat.zero_add, List.length_cons, List.length_nil, List.set_cons_zero, List.set_cons_succ, Nat.reduceLT, s_fi, s_fl, s_fo, s_fa, s_f0, s_f1, s_set, s_ss, lg_cmp_ge, lg_cmp_le, lg_cmp_gt, lg_cmp_lt, lg_cmp_eq, s_brT, s_brF, s_10, w_Cm_hasSegments, r_Cm_hasSegments, l_Cm_hasSegments_0, l_Cm_hasSegments_33, l_Cm_hasSegments_35, l_Cm_hasSegments_83, l_Cm_hasSegments_85, l_Cm_hasSegments_96, l_Cm_hasSegments_127, l_Cm_hasSegments_129, l_Cm_hasSegments_138, l_Cm_hasSegments_148, l_Cm_hasSegments_149, f_1_9, f_1_19, kl_1_56, ml_1_34, w_Ta_holds, ml_1_26, w_Ta_u16, kc_4, kc_0, kb_6, kc_2, kb_16, f_1_23, ty_1_3, kc_m1, ml_1_64, w_Cm_lastOf, ml_1_67, w_Cm_firstOf, kc_1, ki_1_70, hA']
    refine ⟨fun c => absurd ((nI_leI (by omega) (by omega)).mp c) (by omega), fun _ => ?_⟩
    refine q_c0 (Nat.le_refl _) (Nat.le_refl _) ?_
    refine c_Cm_lastOf hA hT hB hin hp (by omega) ?_
    simp -implicitDefEqProofs only [s_go, s_nil, s_cons, q_ins, s_op, s_i, s_j, s_a, s_v, s_li, s_lj, s_la, s_liO, s_ljO, s_laO, q_get, q_p1, q_p2, s_n2i, s_n2r, s_n2l, s_n2n, q_pad, q_ar, s_ob, s_obO, q_nth, s_ri, s_riO, s_rb, s_rbO, s_rzO, s_rl, s_rlO, s_rq, s_rqO, s_ry, s_ryO, s_dn, s_tl, s_tn, s_ap, s_an, s_ci, s_cr, s_ni, s_n0, s_n1, q_ags, q_cat, List.contains_nil, List.contains_cons, Nat.reduceBEq, Bool.or_false, Bool.false_or, Bool.true_or, Bool.false_eq_true, ↓reduceIte, Nat.le_refl, Nat.zero_le, true_and, and_true, Nat.reduceLeDiff, Nat.reduceAdd, Nat.add_zero, Nat.zero_add, List.length_cons, List.length_nil, List.set_cons_zero, List.set_cons_succ, Nat.reduceLT, s_fi, s_fl, s_fo, s_fa, s_f0, s_f1, s_set, s_ss, lg_cmp_ge, lg_cmp_le, lg_cmp_gt, lg_cmp_lt, lg_cmp_eq, s_brT, s_brF, s_10, w_Cm_hasSegments, r_Cm_hasSegments, l_Cm_hasSegments_0, l_Cm_hasSegments_33, l_Cm_hasSegments_35, l_Cm_hasSegments_83, l_Cm_hasSegments_85, l_Cm_hasSegments_96, l_Cm_hasSegments_127, l_Cm_hasSegments_129, l_Cm_hasSegments_138, l_Cm_hasSegments_148, l_Cm_hasSegments_149, f_1_9, f_1_19, kl_1_56, ml_1_34, w_Ta_holds, ml_1_26, w_Ta_u16, kc_4, kc_0, kb_6, kc_2, kb_16, f_1_23, ty_1_3, kc_m1, ml_1_64, w_Cm_lastOf, ml_1_67, w_Cm_firstOf, kc_1, ki_1_70, hA']
    rw [show nI (U16 F cs cl (p + 14 + 2 * k)) = nI (s_la' F cs cl p k) from rfl, q_sb_le hF]
    refine ⟨fun c => q0 (fun z => c (z.1 k (by omega)).1), fun c => ?_⟩
    refine q_c0 (Nat.le_refl _) (Nat.le_refl _) ?_
    refine c_Cm_firstOf hA hT hB hin hp (by omega) (by omega) ?_
    simp -implicitDefEqProofs only [s_go, s_nil, s_cons, q_ins, s_op, s_i, s_j, s_a, s_v, s_li, s_lj, s_la, s_liO, s_ljO, s_laO, q_get, q_p1, q_p2, s_n2i, s_n2r, s_n2l, s_n2n, q_pad, q_ar, s_ob, s_obO, q_nth, s_ri, s_riO, s_rb, s_rbO, s_rzO, s_rl, s_rlO, s_rq, s_rqO, s_ry, s_ryO, s_dn, s_tl, s_tn, s_ap, s_an, s_ci, s_cr, s_ni, s_n0, s_n1, q_ags, q_cat, List.contains_nil, List.contains_cons, Nat.reduceBEq, Bool.or_false, Bool.false_or, Bool.true_or, Bool.false_eq_true, ↓reduceIte, Nat.le_refl, Nat.zero_le, true_and, and_true, Nat.reduceLeDiff, Nat.reduceAdd, Nat.add_zero, Nat.zero_add, List.length_cons, List.length_nil, List.set_cons_zero, List.set_cons_succ, Nat.reduceLT, s_fi, s_fl, s_fo, s_fa, s_f0, s_f1, s_set, s_ss, lg_cmp_ge, lg_cmp_le, lg_cmp_gt, lg_cmp_lt, lg_cmp_eq, s_brT, s_brF, s_10, w_Cm_hasSegments, r_Cm_hasSegments, l_Cm_hasSegments_0, l_Cm_hasSegments_33, l_Cm_hasSegments_35, l_Cm_hasSegments_83, l_Cm_hasSegments_85, l_Cm_hasSegments_96, l_Cm_hasSegments_127, l_Cm_hasSegments_129, l_Cm_hasSegments_138, l_Cm_hasSegments_148, l_Cm_hasSegments_149, f_1_9, f_1_19, kl_1_56, ml_1_34, w_Ta_holds, ml_1_26, w_Ta_u16, kc_4, kc_0, kb_6, kc_2, kb_16, f_1_23, ty_1_3, kc_m1, ml_1_64, w_Cm_lastOf, ml_1_67, w_Cm_firstOf, kc_1, ki_1_70, hA']
    rw [nI_leI (by omega) (by unfold s_la'; omega)]
    refine ⟨fun c1 => ?_, fun c1 => q0 (fun z => c1 (z.1 k (by omega)).2)⟩
    refine q_wk (ih (k + 1) (by omega) (fun j hj => ?_)) ⟨rfl, rfl, ?_, by rw [nI_1], trivial⟩
    · rcases Nat.lt_or_ge j k with z | z
      · exact hall j z
      · have : j = k := by omega
        subst this
        exact ⟨Classical.not_not.mp c, c1⟩
    · unfold q_sb
      rw [if_neg (by omega)]
      rfl
theorem q_rem2 {a : Nat} (h : a < 65536) : nI a - nI a / 2 * 2 = nI (a % 2) := pk_rem (d := 2) (by omega) (by omega) (by omega)
theorem q_div2 {a : Nat} (h : a < 65536) : nI a / 2 = nI (a / 2) := pk_div (d := 2) (by omega) (by omega) (by omega)
set_option maxRecDepth 100000 in
set_option maxHeartbeats 4000000 in
theorem c_Cm_hasSegments {G : q_G} {l : Launch} {d a tc f row m n sz cs cl p : Nat} {og mn : Int32} {g : Nat → Int32} {F : Nat → Nat} {h : q_H} {Q : q_P} (hA : h a = some (e_Cm tc og (nI p) mn)) (hT : q_Ta h tc f cs cl) (hB : q_By h f row m g sz F) (hin : cs + cl ≤ sz) (hp : p ≤ cl)
    (q1 : SG_ok F cs cl p → Q (some (.int 1)) (q_set h a (e_Cm tc og (nI p) (nI (sg_D F cs cl p / 2)))) n) (q0 : ¬ SG_ok F cs cl p → ∀ mn, Q (some (.int 0)) (q_set h a (e_Cm tc og (nI p) mn)) n) : q_Call G l M_Cm_hasSegments (d + 3) 0 0 [.ref a] h n Q := by
  have hF := hB.2.2.2.2.2.2
  have hs : sz ≤ 16384 := Nat.le_trans hB.2.2.1 hB.2.2.2.1
  have hA' := hA
  unfold e_Cm at hA'
  have hT' : h tc = some (.inr (6, [.ref f, .int (nI cs), .int (nI cl)])) := hT
  have q0' : ¬ SG_ok F cs cl p → Q (some (.int 0)) h n := fun z => by
    have := q0 z mn
    rw [s_id h hA] at this
    exact this
  have bu := U16_lt hF cs cl p
  have bD : sg_D F cs cl p < 65536 := U16_lt hF cs cl (p + 6)
  have hta : tc ≠ a := fun q => by rw [q, hA'] at hT'; cases hT'
  have hfa : f ≠ a := fun q => by have := hB.1; rw [q, hA'] at this; cases this
  have hra := hB.ne hA'
  refine q_in u_Cm_hasSegments (by rw [L_Cm_hasSegments]; exact Nat.le_of_ble_eq_true rfl) ?_
  rw [L_Cm_hasSegments]
  refine q_at o_Cm_hasSegments [96] 20 l_Cm_hasSegments_0 ?_
  simp -implicitDefEqProofs only [s_go, s_nil, s_cons, q_ins, s_op, s_i, s_j, s_a, s_v, s_li, s_lj, s_la, s_liO, s_ljO, s_laO, q_get, q_p1, q_p2, s_n2i, s_n2r, s_n2l, s_n2n, q_pad, q_ar, s_ob, s_obO, q_nth, s_ri, s_riO, s_rb, s_rbO, s_rzO, s_rl, s_rlO, s_rq, s_rqO, s_ry, s_ryO, s_dn, s_tl, s_tn, s_ap, s_an, s_ci, s_cr, s_ni, s_n0, s_n1, q_ags, q_cat, List.contains_nil, List.contains_cons, Nat.reduceBEq, Bool.or_false, Bool.false_or, Bool.true_or, Bool.false_eq_true, ↓reduceIte, Nat.le_refl, Nat.zero_le, true_and, and_true, Nat.reduceLeDiff, Nat.reduceAdd, Nat.add_zero, Nat.zero_add, List.length_cons, List.length_nil, List.set_cons_zero, List.set_cons_succ, Nat.reduceLT, s_fi, s_fl, s_fo, s_fa, s_f0, s_f1, s_set, s_ss, lg_cmp_ge, lg_cmp_le, lg_cmp_gt, lg_cmp_lt, lg_cmp_eq, s_brT, s_brF, s_10, w_Cm_hasSegments, r_Cm_hasSegments, l_Cm_hasSegments_0, l_Cm_hasSegments_33, l_Cm_hasSegments_35, l_Cm_hasSegments_83, l_Cm_hasSegments_85, l_Cm_hasSegments_96, l_Cm_hasSegments_127, l_Cm_hasSegments_129, l_Cm_hasSegments_138, l_Cm_hasSegments_148, l_Cm_hasSegments_149, f_1_9, f_1_19, kl_1_56, ml_1_34, w_Ta_holds, ml_1_26, w_Ta_u16, kc_4, kc_0, kb_6, kc_2, kb_16, f_1_23, ty_1_3, kc_m1, ml_1_64, w_Cm_lastOf, ml_1_67, w_Cm_firstOf, kc_1, ki_1_70, hA', hT', nI_l (show p < 2 ^ 31 by omega)]
  refine q_c0 (Nat.le_refl _) (Nat.le_refl _) ?_
  refine c_Ta_holds (y := 16) hT (by omega) (by omega) (by omega) ?_
  simp -implicitDefEqProofs only [s_go, s_nil, s_cons, q_ins, s_op, s_i, s_j, s_a, s_v, s_li, s_lj, s_la, s_liO, s_ljO, s_laO, q_get, q_p1, q_p2, s_n2i, s_n2r, s_n2l, s_n2n, q_pad, q_ar, s_ob, s_obO, q_nth, s_ri, s_riO, s_rb, s_rbO, s_rzO, s_rl, s_rlO, s_rq, s_rqO, s_ry, s_ryO, s_dn, s_tl, s_tn, s_ap, s_an, s_ci, s_cr, s_ni, s_n0, s_n1, q_ags, q_cat, List.contains_nil, List.contains_cons, Nat.reduceBEq, Bool.or_false, Bool.false_or, Bool.true_or, Bool.false_eq_true, ↓reduceIte, Nat.le_refl, Nat.zero_le, true_and, and_true, Nat.reduceLeDiff, Nat.reduceAdd, Nat.add_zero, Nat.zero_add, List.length_cons, List.length_nil, List.set_cons_zero, List.set_cons_succ, Nat.reduceLT, s_fi, s_fl, s_fo, s_fa, s_f0, s_f1, s_set, s_ss, lg_cmp_ge, lg_cmp_le, lg_cmp_gt, lg_cmp_lt, lg_cmp_eq, s_brT, s_brF, s_10, w_Cm_hasSegments, r_Cm_hasSegments, l_Cm_hasSegments_0, l_Cm_hasSegments_33, l_Cm_hasSegments_35, l_Cm_hasSegments_83, l_Cm_hasSegments_85, l_Cm_hasSegments_96, l_Cm_hasSegments_127, l_Cm_hasSegments_129, l_Cm_hasSegments_138, l_Cm_hasSegments_148, l_Cm_hasSegments_149, f_1_9, f_1_19, kl_1_56, ml_1_34, w_Ta_holds, ml_1_26, w_Ta_u16, kc_4, kc_0, kb_6, kc_2, kb_16, f_1_23, ty_1_3, kc_m1, ml_1_64, w_Cm_lastOf, ml_1_67, w_Cm_firstOf, kc_1, ki_1_70, hA', hT']
  by_cases c0 : p + 16 ≤ cl
  · rw [q_z_t c0]
    refine ⟨fun z => absurd z (by decide), fun _ => ?_⟩
    refine q_c0 (Nat.le_refl _) (Nat.le_refl _) ?_
    refine c_Ta_u16 hT hB hin (by omega) ?_
    simp -implicitDefEqProofs only [s_go, s_nil, s_cons, q_ins, s_op, s_i, s_j, s_a, s_v, s_li, s_lj, s_la, s_liO, s_ljO, s_laO, q_get, q_p1, q_p2, s_n2i, s_n2r, s_n2l, s_n2n, q_pad, q_ar, s_ob, s_obO, q_nth, s_ri, s_riO, s_rb, s_rbO, s_rzO, s_rl, s_rlO, s_rq, s_rqO, s_ry, s_ryO, s_dn, s_tl, s_tn, s_ap, s_an, s_ci, s_cr, s_ni, s_n0, s_n1, q_ags, q_cat, List.contains_nil, List.contains_cons, Nat.reduceBEq, Bool.or_false, Bool.false_or, Bool.true_or, Bool.false_eq_true, ↓reduceIte, Nat.le_refl, Nat.zero_le, true_and, and_true, Nat.reduceLeDiff, Nat.reduceAdd, Nat.add_zero, Nat.zero_add, List.length_cons, List.length_nil, List.set_cons_zero, List.set_cons_succ, Nat.reduceLT, s_fi, s_fl, s_fo, s_fa, s_f0, s_f1, s_set, s_ss, lg_cmp_ge, lg_cmp_le, lg_cmp_gt, lg_cmp_lt, lg_cmp_eq, s_brT, s_brF, s_10, w_Cm_hasSegments, r_Cm_hasSegments, l_Cm_hasSegments_0, l_Cm_hasSegments_33, l_Cm_hasSegments_35, l_Cm_hasSegments_83, l_Cm_hasSegments_85, l_Cm_hasSegments_96, l_Cm_hasSegments_127, l_Cm_hasSegments_129, l_Cm_hasSegments_138, l_Cm_hasSegments_148, l_Cm_hasSegments_149, f_1_9, f_1_19, kl_1_56, ml_1_34, w_Ta_holds, ml_1_26, w_Ta_u16, kc_4, kc_0, kb_6, kc_2, kb_16, f_1_23, ty_1_3, kc_m1, ml_1_64, w_Cm_lastOf, ml_1_67, w_Cm_firstOf, kc_1, ki_1_70, hA', hT']
    rw [show (4 : Int32) = nI 4 from rfl, nI_eq (by omega) (by omega)]
    refine ⟨fun c1 => ?_, fun c1 => q0' (fun z => c1 z.2.1)⟩
    rw [show nI p + 6 = nI (p + 6) from nI_add p 6]
    refine q_c0 (Nat.le_refl _) (Nat.le_refl _) ?_
    refine c_Ta_u16 hT hB hin (by omega) ?_
    simp -implicitDefEqProofs only [s_go, s_nil, s_cons, q_ins, s_op, s_i, s_j, s_a, s_v, s_li, s_lj, s_la, s_liO, s_ljO, s_laO, q_get, q_p1, q_p2, s_n2i, s_n2r, s_n2l, s_n2n, q_pad, q_ar, s_ob, s_obO, q_nth, s_ri, s_riO, s_rb, s_rbO, s_rzO, s_rl, s_rlO, s_rq, s_rqO, s_ry, s_ryO, s_dn, s_tl, s_tn, s_ap, s_an, s_ci, s_cr, s_ni, s_n0, s_n1, q_ags, q_cat, List.contains_nil, List.contains_cons, Nat.reduceBEq, Bool.or_false, Bool.false_or, Bool.true_or, Bool.false_eq_true, ↓reduceIte, Nat.le_refl, Nat.zero_le, true_and, and_true, Nat.reduceLeDiff, Nat.reduceAdd, Nat.add_zero, Nat.zero_add, List.length_cons, List.length_nil, List.set_cons_zero, List.set_cons_succ, Nat.reduceLT, s_fi, s_fl, s_fo, s_fa, s_f0, s_f1, s_set, s_ss, lg_cmp_ge, lg_cmp_le, lg_cmp_gt, lg_cmp_lt, lg_cmp_eq, s_brT, s_brF, s_10, w_Cm_hasSegments, r_Cm_hasSegments, l_Cm_hasSegments_0, l_Cm_hasSegments_33, l_Cm_hasSegments_35, l_Cm_hasSegments_83, l_Cm_hasSegments_85, l_Cm_hasSegments_96, l_Cm_hasSegments_127, l_Cm_hasSegments_129, l_Cm_hasSegments_138, l_Cm_hasSegments_148, l_Cm_hasSegments_149, f_1_9, f_1_19, kl_1_56, ml_1_34, w_Ta_holds, ml_1_26, w_Ta_u16, kc_4, kc_0, kb_6, kc_2, kb_16, f_1_23, ty_1_3, kc_m1, ml_1_64, w_Cm_lastOf, ml_1_67, w_Cm_firstOf, kc_1, ki_1_70, hA', hT', nI_l (show p < 2 ^ 31 by omega)]
    rw [show nI (U16 F cs cl (p + 6)) = nI (sg_D F cs cl p) from rfl, q_rem2 bD, show (nI (sg_D F cs cl p) < (2 : Int32)) = (sg_D F cs cl p < 2) from propext (nI_ltI (b := 2) (by omega) (by omega))]
    refine ⟨fun c2 => q0' (fun z => absurd z.2.2.1 (by omega)), fun c2 => ⟨by decide, ?_⟩⟩
    rw [show (nI (sg_D F cs cl p % 2) = (0 : Int32)) = (sg_D F cs cl p % 2 = 0) from propext (nI_eq (b := 0) (by omega) (by omega))]
    refine ⟨fun c3 => ?_, fun c3 => q0' (fun z => c3 z.2.2.2.1)⟩
    rw [show (4 : Int32) * nI (sg_D F cs cl p) = nI (4 * sg_D F cs cl p) from pk_mul 4 _, show (16 : Int32) + nI (4 * sg_D F cs cl p) = nI (16 + 4 * sg_D F cs cl p) from nI_add 16 _, nI_l (by omega)]
    refine q_c0 (Nat.le_refl _) (Nat.le_refl _) ?_
    refine c_Ta_holds hT (by omega) (by omega) (by omega) ?_
    simp -implicitDefEqProofs only [s_go, s_nil, s_cons, q_ins, s_op, s_i, s_j, s_a, s_v, s_li, s_lj, s_la, s_liO, s_ljO, s_laO, q_get, q_p1, q_p2, s_n2i, s_n2r, s_n2l, s_n2n, q_pad, q_ar, s_ob, s_obO, q_nth, s_ri, s_riO, s_rb, s_rbO, s_rzO, s_rl, s_rlO, s_rq, s_rqO, s_ry, s_ryO, s_dn, s_tl, s_tn, s_ap, s_an, s_ci, s_cr, s_ni, s_n0, s_n1, q_ags, q_cat, List.contains_nil, List.contains_cons, Nat.reduceBEq, Bool.or_false, Bool.false_or, Bool.true_or, Bool.false_eq_true, ↓reduceIte, Nat.le_refl, Nat.zero_le, true_and, and_true, Nat.reduceLeDiff, Nat.reduceAdd, Nat.add_zero, Nat.zero_add, List.length_cons, List.length_nil, List.set_cons_zero, List.set_cons_succ, Nat.reduceLT, s_fi, s_fl, s_fo, s_fa, s_f0, s_f1, s_set, s_ss, lg_cmp_ge, lg_cmp_le, lg_cmp_gt, lg_cmp_lt, lg_cmp_eq, s_brT, s_brF, s_10, w_Cm_hasSegments, r_Cm_hasSegments, l_Cm_hasSegments_0, l_Cm_hasSegments_33, l_Cm_hasSegments_35, l_Cm_hasSegments_83, l_Cm_hasSegments_85, l_Cm_hasSegments_96, l_Cm_hasSegments_127, l_Cm_hasSegments_129, l_Cm_hasSegments_138, l_Cm_hasSegments_148, l_Cm_hasSegments_149, f_1_9, f_1_19, kl_1_56, ml_1_34, w_Ta_holds, ml_1_26, w_Ta_u16, kc_4, kc_0, kb_6, kc_2, kb_16, f_1_23, ty_1_3, kc_m1, ml_1_64, w_Cm_lastOf, ml_1_67, w_Cm_firstOf, kc_1, ki_1_70, hA', hT', q_div2 bD]
    by_cases c4 : p + (16 + 4 * sg_D F cs cl p) ≤ cl
    · rw [q_z_t c4]
      refine ⟨fun z => absurd z (by decide), fun _ => ⟨by decide, ?_⟩⟩
      have fr : q_1 h (q_set h a (e_Cm tc og (nI p) (nI (sg_D F cs cl p / 2)))) a := fun b hb => s_ne _ _ hb
      exact z_Cm_hasSegments (s_set _ _ _) ((fr tc hta).trans hT) (hB.mv (fr f hfa) (fr row hra)) hin (by omega) (fun y1 y2 => q1 ⟨c0, c1, by omega, c3, by omega, y1, y2⟩) (fun z => q0 (fun y => z ⟨y.2.2.2.2.2.1, y.2.2.2.2.2.2⟩) _) (by omega) (sg_D F cs cl p / 2) 0 (by omega) (fun j hj => absurd hj (by omega))
    · rw [q_z_f c4]
      exact ⟨fun _ => q0' (fun z => c4 (by have := z.2.2.2.2.1; omega)), fun z => absurd rfl z⟩
  · rw [q_z_f c0]
    exact ⟨fun _ => q0' (fun z => c0 z.1), fun z => absurd rfl z⟩
