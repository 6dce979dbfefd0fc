/-! CharacterMap.isFound -/
def mpN (F : Nat → Nat) (cs cl : Nat) : Nat := U16 F cs cl 2
/-- the map: is it one of 3, 10; its place -/
def MAPe (F : Nat → Nat) (cs cl : Nat) : Option (Bool × Nat) := match FEr F cs cl 10 0 (mpN F cs cl) with
  | some k => some (true, U32 F cs cl (4 + 8 * k + 4))
  | none => match FEr F cs cl 1 0 (mpN F cs cl) with
    | some k => some (false, U32 F cs cl (4 + 8 * k + 4))
    | none => none
def MAP_ok (F : Nat → Nat) (cs cl : Nat) : Prop := 4 + 8 * mpN F cs cl ≤ cl ∧ ((∃ p, MAPe F cs cl = some (true, p) ∧ GR_ok F cs cl p) ∨ (∃ p, MAPe F cs cl = some (false, p) ∧ SG_ok F cs cl p))
theorem FEr_lt {F : Nat → Nat} {cs cl kd : Nat} : ∀ (r k j : Nat), FEr F cs cl kd k r = some j → j < k + r
  | 0, k, j, h => by cases h
  | r + 1, k, j, h => by
    unfold FEr at h
    split at h
    · cases h; omega
    · have := FEr_lt r (k + 1) j h; omega
set_option maxRecDepth 100000 in
set_option maxHeartbeats 4000000 in
theorem z_Cm_isFound {G : q_G} {l : Launch} {d a tc f row m n sz cs cl : Nat} {pl mn : Int32} {w : Bool} {oe : Option Nat} {g : Nat → Int32} {F : Nat → Nat} {h : q_H} {Q : q_P} (hA : h a = some (e_Cm tc (if w = true then 1 else 0) pl mn)) (hT : q_Ta h tc f cs cl) (hB : q_By h f row m g sz F) (hin : cs + cl ≤ sz) (hoe : ∀ k, oe = some k → k < 65536)
    (q1 : ∀ k, oe = some k → w = true → GR_ok F cs cl (U32 F cs cl (4 + 8 * k + 4)) → Q (some (.int 1)) (q_set h a (e_Cm tc 1 (nI (U32 F cs cl (4 + 8 * k + 4))) (nI (U32 F cs cl (U32 F cs cl (4 + 8 * k + 4) + 12))))) n)
    (q2 : ∀ k, oe = some k → w = false → SG_ok F cs cl (U32 F cs cl (4 + 8 * k + 4)) → Q (some (.int 1)) (q_set h a (e_Cm tc 0 (nI (U32 F cs cl (4 + 8 * k + 4))) (nI (sg_D F cs cl (U32 F cs cl (4 + 8 * k + 4)) / 2)))) n)
    (q0 : (∀ k, oe = some k → ¬ (if w = true then GR_ok F cs cl (U32 F cs cl (4 + 8 * k + 4)) else SG_ok F cs cl (U32 F cs cl (4 + 8 * k + 4)))) → ∀ pl mn, Q (some (.int 0)) (q_set h a (e_Cm tc (if w = true then 1 else 0) pl mn)) n) {x1 : Int32} :
    q_Z G l M_Cm_isFound (d + 4) 0 0 Q 65 [some (.ref a), some (.int x1), some (.int (q_fe oe))] [] h n 0 0 := by
  have hF := hB.2.2.2.2.2.2
  have hs : sz ≤ 16384 := Nat.le_trans hB.2.2.1 hB.2.2.2.1
  have hA' := hA
  unfold e_Cm at hA'
  have hT' : h tc = some (.inr (6, [.ref f, .int (nI cs), .int (nI cl)])) := hT
  have q0' : (∀ k, oe = some k → ¬ (if w = true then GR_ok F cs cl (U32 F cs cl (4 + 8 * k + 4)) else SG_ok F cs cl (U32 F cs cl (4 + 8 * k + 4)))) → Q (some (.int 0)) h n := fun z => by
    have := q0 z pl mn
    rw [s_id h hA] at this
    exact this
  have hta : tc ≠ a := fun q => by rw [q, hA'] at hT'; cases hT'
  have hfa : f ≠ a := fun q => by have := hB.1; rw [q, hA'] at this; cases this
  have hra := hB.ne hA'
  refine q_at o_Cm_isFound [] 20 l_Cm_isFound_65 ?_
  simp -implicitDefEqProofs only [s_go, s_nil, s_cons, q_ins, s_op, s_i, s_j, s_a, s_v, s_li, s_lj, s_la, s_liO, s_ljO, s_laO, q_get, q_p1, q_p2, s_n2i, s_n2r, s_n2l, s_n2n, q_pad, q_ar, s_ob, s_obO, q_nth, s_ri, s_riO, s_rb, s_rbO, s_rzO, s_rl, s_rlO, s_rq, s_rqO, s_ry, s_ryO, s_dn, s_tl, s_tn, s_ap, s_an, s_ci, s_cr, s_ni, s_n0, s_n1, q_ags, q_cat, List.contains_nil, List.contains_cons, Nat.reduceBEq, Bool.or_false, Bool.false_or, Bool.true_or, Bool.false_eq_true, ↓reduceIte, Nat.le_refl, Nat.zero_le, true_and, and_true, Nat.reduceLeDiff, Nat.reduceAdd, Nat.add_zero, Nat.zero_add, List.length_cons, List.length_nil, List.set_cons_zero, List.set_cons_succ, Nat.reduceLT, s_fi, s_fl, s_fo, s_fa, s_f0, s_f1, s_set, s_ss, lg_cmp_ge, lg_cmp_le, lg_cmp_gt, lg_cmp_lt, lg_cmp_eq, s_brT, s_brF, s_10, w_Cm_isFound, r_Cm_isFound, l_Cm_isFound_0, l_Cm_isFound_29, l_Cm_isFound_47, l_Cm_isFound_48, l_Cm_isFound_65, l_Cm_isFound_92, l_Cm_isFound_94, l_Cm_isFound_123, l_Cm_isFound_127, f_1_9, kc_2, ml_1_26, w_Ta_u16, kl_1_32, kb_8, ml_1_34, w_Ta_holds, kc_0, kb_10, ml_1_38, w_Cm_firstEntry, kc_m1, kc_1, f_1_15, ty_1_1, kc_4, ml_1_42, w_Ta_u32, f_1_46, f_1_19, ty_1_2, ml_1_49, w_Cm_hasGroups, ml_1_53, w_Cm_hasSegments, hA', hT']
  cases oe with
  | none => exact ⟨fun _ => q0' (fun k hk => by cases hk), fun c => absurd rfl c⟩
  | some k =>
    have hk := hoe k rfl
    refine ⟨fun c => absurd (show nI (4 + 8 * k) ≤ -1 by rw [show nI (4 + 8 * k) = -1 from c]; decide) (q_im1 (by omega)), fun _ => ?_⟩
    rw [show q_fe (some k) + 4 = nI (4 + 8 * k + 4) from nI_add _ 4]
    refine q_c0 (Nat.le_refl _) (Nat.le_refl _) ?_
    refine c_Ta_u32 hT hB hin (by omega) ?_
    have bp := U32_lt hF cs cl (4 + 8 * k + 4)
    simp -implicitDefEqProofs only [s_go, s_nil, s_cons, q_ins, s_op, s_i, s_j, s_a, s_v, s_li, s_lj, s_la, s_liO, s_ljO, s_laO, q_get, q_p1, q_p2, s_n2i, s_n2r, s_n2l, s_n2n, q_pad, q_ar, s_ob, s_obO, q_nth, s_ri, s_riO, s_rb, s_rbO, s_rzO, s_rl, s_rlO, s_rq, s_rqO, s_ry, s_ryO, s_dn, s_tl, s_tn, s_ap, s_an, s_ci, s_cr, s_ni, s_n0, s_n1, q_ags, q_cat, List.contains_nil, List.contains_cons, Nat.reduceBEq, Bool.or_false, Bool.false_or, Bool.true_or, Bool.false_eq_true, ↓reduceIte, Nat.le_refl, Nat.zero_le, true_and, and_true, Nat.reduceLeDiff, Nat.reduceAdd, Nat.add_zero, Nat.zero_add, List.length_cons, List.length_nil, List.set_cons_zero, List.set_cons_succ, Nat.reduceLT, s_fi, s_fl, s_fo, s_fa, s_f0, s_f1, s_set, s_ss, lg_cmp_ge, lg_cmp_le, lg_cmp_gt, lg_cmp_lt, lg_cmp_eq, s_brT, s_brF, s_10, w_Cm_isFound, r_Cm_isFound, l_Cm_isFound_0, l_Cm_isFound_29, l_Cm_isFound_47, l_Cm_isFound_48, l_Cm_isFound_65, l_Cm_isFound_92, l_Cm_isFound_94, l_Cm_isFound_123, l_Cm_isFound_127, f_1_9, kc_2, ml_1_26, w_Ta_u16, kl_1_32, kb_8, ml_1_34, w_Ta_holds, kc_0, kb_10, ml_1_38, w_Cm_firstEntry, kc_m1, kc_1, f_1_15, ty_1_1, kc_4, ml_1_42, w_Ta_u32, f_1_46, f_1_19, ty_1_2, ml_1_49, w_Cm_hasGroups, ml_1_53, w_Cm_hasSegments, hA', hT', nI_l (show cl < 2 ^ 31 by omega)]
    rw [pk_lLE (by omega) (by omega)]
    have big : ¬ U32 F cs cl (4 + 8 * k + 4) ≤ cl → ∀ j, some k = some j → ¬ (if w = true then GR_ok F cs cl (U32 F cs cl (4 + 8 * j + 4)) else SG_ok F cs cl (U32 F cs cl (4 + 8 * j + 4))) := by
      intro c j hj
      cases hj
      split
      · intro z; have := z.1; omega
      · intro z; have := z.1; omega
    refine ⟨fun c => ?_, fun c => q0' (big c)⟩
    rw [show q_fe (some k) + 4 = nI (4 + 8 * k + 4) from nI_add _ 4]
    refine q_c0 (Nat.le_refl _) (Nat.le_refl _) ?_
    refine c_Ta_u32 hT hB hin (by omega) ?_
    simp -implicitDefEqProofs only [s_go, s_nil, s_cons, q_ins, s_op, s_i, s_j, s_a, s_v, s_li, s_lj, s_la, s_liO, s_ljO, s_laO, q_get, q_p1, q_p2, s_n2i, s_n2r, s_n2l, s_n2n, q_pad, q_ar, s_ob, s_obO, q_nth, s_ri, s_riO, s_rb, s_rbO, s_rzO, s_rl, s_rlO, s_rq, s_rqO, s_ry, s_ryO, s_dn, s_tl, s_tn, s_ap, s_an, s_ci, s_cr, s_ni, s_n0, s_n1, q_ags, q_cat, List.contains_nil, List.contains_cons, Nat.reduceBEq, Bool.or_false, Bool.false_or, Bool.true_or, Bool.false_eq_true, ↓reduceIte, Nat.le_refl, Nat.zero_le, true_and, and_true, Nat.reduceLeDiff, Nat.reduceAdd, Nat.add_zero, Nat.zero_add, List.length_cons, List.length_nil, List.set_cons_zero, List.set_cons_succ, Nat.reduceLT, s_fi, s_fl, s_fo, s_fa, s_f0, s_f1, s_set, s_ss, lg_cmp_ge, lg_cmp_le, lg_cmp_gt, lg_cmp_lt, lg_cmp_eq, s_brT, s_brF, s_10, w_Cm_isFound, r_Cm_isFound, l_Cm_isFound_0, l_Cm_isFound_29, l_Cm_isFound_47, l_Cm_isFound_48, l_Cm_isFound_65, l_Cm_isFound_92, l_Cm_isFound_94, l_Cm_isFound_123, l_Cm_isFound_127, f_1_9, kc_2, ml_1_26, w_Ta_u16, kl_1_32, kb_8, ml_1_34, w_Ta_holds, kc_0, kb_10, ml_1_38, w_Cm_firstEntry, kc_m1, kc_1, f_1_15, ty_1_1, kc_4, ml_1_42, w_Ta_u32, f_1_46, f_1_19, ty_1_2, ml_1_49, w_Cm_hasGroups, ml_1_53, w_Cm_hasSegments, hA', hT', lN_i]
    generalize hp : U32 F cs cl (4 + 8 * k + 4) = p at *
    generalize hh1 : q_set h a _ = h1
    have A1 : h1 a = some (e_Cm tc (if w = true then 1 else 0) (nI p) mn) := by rw [← hh1]; exact s_set _ _ _
    have fr : q_1 h h1 a := fun b hb => by rw [← hh1]; exact s_ne _ _ hb
    have ss : ∀ x, q_set h1 a x = q_set h a x := fun x => by rw [← hh1, s_ss]
    have T1 : q_Ta h1 tc f cs cl := (fr tc hta).trans hT
    have B1 := hB.mv (fr f hfa) (fr row hra)
    cases w with
    | true =>
      refine ⟨fun z => absurd z (by decide), fun _ => ?_⟩
      refine q_c0 (Nat.le_refl _) (Nat.le_refl _) ?_
      refine c_Cm_hasGroups A1 T1 B1 hin c (fun z => ?_) (fun z mn' => ?_)
      · simp -implicitDefEqProofs only [s_go, s_nil, s_cons, q_ins, s_op, s_i, s_j, s_a, s_v, s_li, s_lj, s_la, s_liO, s_ljO, s_laO, q_get, q_p1, q_p2, s_n2i, s_n2r, s_n2l, s_n2n, q_pad, q_ar, s_ob, s_obO, q_nth, s_ri, s_riO, s_rb, s_rbO, s_rzO, s_rl, s_rlO, s_rq, s_rqO, s_ry, s_ryO, s_dn, s_tl, s_tn, s_ap, s_an, s_ci, s_cr, s_ni, s_n0, s_n1, q_ags, q_cat, List.contains_nil, List.contains_cons, Nat.reduceBEq, Bool.or_false, Bool.false_or, Bool.true_or, Bool.false_eq_true, ↓reduceIte, Nat.le_refl, Nat.zero_le, true_and, and_true, Nat.reduceLeDiff, Nat.reduceAdd, Nat.add_zero, Nat.zero_add, List.length_cons, List.length_nil, List.set_cons_zero, List.set_cons_succ, Nat.reduceLT, s_fi, s_fl, s_fo, s_fa, s_f0, s_f1, s_set, s_ss, lg_cmp_ge, lg_cmp_le, lg_cmp_gt, lg_cmp_lt, lg_cmp_eq, s_brT, s_brF, s_10, w_Cm_isFound, r_Cm_isFound, l_Cm_isFound_0, l_Cm_isFound_29, l_Cm_isFound_47, l_Cm_isFound_48, l_Cm_isFound_65, l_Cm_isFound_92, l_Cm_isFound_94, l_Cm_isFound_123, l_Cm_isFound_127, f_1_9, kc_2, ml_1_26, w_Ta_u16, kl_1_32, kb_8, ml_1_34, w_Ta_holds, kc_0, kb_10, ml_1_38, w_Cm_firstEntry, kc_m1, kc_1, f_1_15, ty_1_1, kc_4, ml_1_42, w_Ta_u32, f_1_46, f_1_19, ty_1_2, ml_1_49, w_Cm_hasGroups, ml_1_53, w_Cm_hasSegments]
        rw [ss]
        have := q1 k rfl rfl (by rw [hp]; exact z)
        rw [hp] at this
        exact this
      · simp -implicitDefEqProofs only [s_go, s_nil, s_cons, q_ins, s_op, s_i, s_j, s_a, s_v, s_li, s_lj, s_la, s_liO, s_ljO, s_laO, q_get, q_p1, q_p2, s_n2i, s_n2r, s_n2l, s_n2n, q_pad, q_ar, s_ob, s_obO, q_nth, s_ri, s_riO, s_rb, s_rbO, s_rzO, s_rl, s_rlO, s_rq, s_rqO, s_ry, s_ryO, s_dn, s_tl, s_tn, s_ap, s_an, s_ci, s_cr, s_ni, s_n0, s_n1, q_ags, q_cat, List.contains_nil, List.contains_cons, Nat.reduceBEq, Bool.or_false, Bool.false_or, Bool.true_or, Bool.false_eq_true, ↓reduceIte, Nat.le_refl, Nat.zero_le, true_and, and_true, Nat.reduceLeDiff, Nat.reduceAdd, Nat.add_zero, Nat.zero_add, List.length_cons, List.length_nil, List.set_cons_zero, List.set_cons_succ, Nat.reduceLT, s_fi, s_fl, s_fo, s_fa, s_f0, s_f1, s_set, s_ss, lg_cmp_ge, lg_cmp_le, lg_cmp_gt, lg_cmp_lt, lg_cmp_eq, s_brT, s_brF, s_10, w_Cm_isFound, r_Cm_isFound, l_Cm_isFound_0, l_Cm_isFound_29, l_Cm_isFound_47, l_Cm_isFound_48, l_Cm_isFound_65, l_Cm_isFound_92, l_Cm_isFound_94, l_Cm_isFound_123, l_Cm_isFound_127, f_1_9, kc_2, ml_1_26, w_Ta_u16, kl_1_32, kb_8, ml_1_34, w_Ta_holds, kc_0, kb_10, ml_1_38, w_Cm_firstEntry, kc_m1, kc_1, f_1_15, ty_1_1, kc_4, ml_1_42, w_Ta_u32, f_1_46, f_1_19, ty_1_2, ml_1_49, w_Cm_hasGroups, ml_1_53, w_Cm_hasSegments]
        rw [ss]
        exact q0 (fun j hj => by cases hj; rw [if_pos rfl, hp]; exact z) _ _
    | false =>
      refine ⟨fun _ => ?_, fun z => absurd rfl z⟩
      refine q_c0 (Nat.le_refl _) (Nat.le_refl _) ?_
      refine c_Cm_hasSegments A1 T1 B1 hin c (fun z => ?_) (fun z mn' => ?_)
      · simp -implicitDefEqProofs only [s_go, s_nil, s_cons, q_ins, s_op, s_i, s_j, s_a, s_v, s_li, s_lj, s_la, s_liO, s_ljO, s_laO, q_get, q_p1, q_p2, s_n2i, s_n2r, s_n2l, s_n2n, q_pad, q_ar, s_ob, s_obO, q_nth, s_ri, s_riO, s_rb, s_rbO, s_rzO, s_rl, s_rlO, s_rq, s_rqO, s_ry, s_ryO, s_dn, s_tl, s_tn, s_ap, s_an, s_ci, s_cr, s_ni, s_n0, s_n1, q_ags, q_cat, List.contains_nil, List.contains_cons, Nat.reduceBEq, Bool.or_false, Bool.false_or, Bool.true_or, Bool.false_eq_true, ↓reduceIte, Nat.le_refl, Nat.zero_le, true_and, and_true, Nat.reduceLeDiff, Nat.reduceAdd, Nat.add_zero, Nat.zero_add, List.length_cons, List.length_nil, List.set_cons_zero, List.set_cons_succ, Nat.reduceLT, s_fi, s_fl, s_fo, s_fa, s_f0, s_f1, s_set, s_ss, lg_cmp_ge, lg_cmp_le, lg_cmp_gt, lg_cmp_lt, lg_cmp_eq, s_brT, s_brF, s_10, w_Cm_isFound, r_Cm_isFound, l_Cm_isFound_0, l_Cm_isFound_29, l_Cm_isFound_47, l_Cm_isFound_48, l_Cm_isFound_65, l_Cm_isFound_92, l_Cm_isFound_94, l_Cm_isFound_123, l_Cm_isFound_127, f_1_9, kc_2, ml_1_26, w_Ta_u16, kl_1_32, kb_8, ml_1_34, w_Ta_holds, kc_0, kb_10, ml_1_38, w_Cm_firstEntry, kc_m1, kc_1, f_1_15, ty_1_1, kc_4, ml_1_42, w_Ta_u32, f_1_46, f_1_19, ty_1_2, ml_1_49, w_Cm_hasGroups, ml_1_53, w_Cm_hasSegments]
        rw [ss]
        have := q2 k rfl rfl (by rw [hp]; exact z)
        rw [hp] at this
        exact this
      · simp -implicitDefEqProofs only [s_go, s_nil, s_cons, q_ins, s_op, s_i, s_j, s_a, s_v, s_li, s_lj, s_la, s_liO, s_ljO, s_laO, q_get, q_p1, q_p2, s_n2i, s_n2r, s_n2l, s_n2n, q_pad, q_ar, s_ob, s_obO, q_nth, s_ri, s_riO, s_rb, s_rbO, s_rzO, s_rl, s_rlO, s_rq, s_rqO, s_ry, s_ryO, s_dn, s_tl, s_tn, s_ap, s_an, s_ci, s_cr, s_ni, s_n0, s_n1, q_ags, q_cat, List.contains_nil, List.contains_cons, Nat.reduceBEq, Bool.or_false, Bool.false_or, Bool.true_or, Bool.false_eq_true, ↓reduceIte, Nat.le_refl, Nat.zero_le, true_and, and_true, Nat.reduceLeDiff, Nat.reduceAdd, Nat.add_zero, Nat.zero_add, List.length_cons, List.length_nil, List.set_cons_zero, List.set_cons_succ, Nat.reduceLT, s_fi, s_fl, s_fo, s_fa, s_f0, s_f1, s_set, s_ss, lg_cmp_ge, lg_cmp_le, lg_cmp_gt, lg_cmp_lt, lg_cmp_eq, s_brT, s_brF, s_10, w_Cm_isFound, r_Cm_isFound, l_Cm_isFound_0, l_Cm_isFound_29, l_Cm_isFound_47, l_Cm_isFound_48, l_Cm_isFound_65, l_Cm_isFound_92, l_Cm_isFound_94, l_Cm_isFound_123, l_Cm_isFound_127, f_1_9, kc_2, ml_1_26, w_Ta_u16, kl_1_32, kb_8, ml_1_34, w_Ta_holds, kc_0, kb_10, ml_1_38, w_Cm_firstEntry, kc_m1, kc_1, f_1_15, ty_1_1, kc_4, ml_1_42, w_Ta_u32, f_1_46, f_1_19, ty_1_2, ml_1_49, w_Cm_hasGroups, ml_1_53, w_Cm_hasSegments]
        rw [ss]
        exact q0 (fun j hj => by cases hj; rw [if_neg (by decide), hp]; exact z) _ _
set_option maxRecDepth 100000 in
set_option maxHeartbeats 4000000 in
theorem c_Cm_isFound {G : q_G} {l : Launch} {d a tc f row m n sz cs cl : Nat} {og pl mn : Int32} {g : Nat → Int32} {F : Nat → Nat} {h : q_H} {Q : q_P} (hA : h a = some (e_Cm tc og pl mn)) (hT : q_Ta h tc f cs cl) (hB : q_By h f row m g sz F) (hin : cs + cl ≤ sz) (hog : og = 0 ∨ og = 1)
    (q1 : ∀ p, MAP_ok F cs cl → MAPe F cs cl = some (true, p) → GR_ok F cs cl p → Q (some (.int 1)) (q_set h a (e_Cm tc 1 (nI p) (nI (U32 F cs cl (p + 12))))) n)
    (q2 : ∀ p, MAP_ok F cs cl → MAPe F cs cl = some (false, p) → SG_ok F cs cl p → Q (some (.int 1)) (q_set h a (e_Cm tc 0 (nI p) (nI (sg_D F cs cl p / 2)))) n)
    (q0 : ¬ MAP_ok F cs cl → ∀ og pl mn, (og = 0 ∨ og = 1) → Q (some (.int 0)) (q_set h a (e_Cm tc og pl mn)) n) : q_Call G l M_Cm_isFound (d + 4) 0 0 [.ref a] h n Q := by
  have hF := hB.2.2.2.2.2.2
  have hs : sz ≤ 16384 := Nat.le_trans hB.2.2.1 hB.2.2.2.1
  have hA' := hA
  unfold e_Cm at hA'
  have hT' : h tc = some (.inr (6, [.ref f, .int (nI cs), .int (nI cl)])) := hT
  have q0' : ¬ MAP_ok F cs cl → Q (some (.int 0)) h n := fun z => by
    have := q0 z og pl mn hog
    rw [s_id h hA] at this
    exact this
  have hta : tc ≠ a := fun q => by rw [q, hA'] at hT'; cases hT'
  have hfa : f ≠ a := fun q => by have := hB.1; rw [q, hA'] at this; cases this
  have hra := hB.ne hA'
  have bN : mpN F cs cl < 65536 := U16_lt hF cs cl 2
  refine q_in u_Cm_isFound (by rw [L_Cm_isFound]; exact Nat.le_of_ble_eq_true rfl) ?_
  rw [L_Cm_isFound]
  refine q_at o_Cm_isFound [65] 20 l_Cm_isFound_0 ?_
  simp -implicitDefEqProofs only [s_go, s_nil, s_cons, q_ins, s_op, s_i, s_j, s_a, s_v, s_li, s_lj, s_la, s_liO, s_ljO, s_laO, q_get, q_p1, q_p2, s_n2i, s_n2r, s_n2l, s_n2n, q_pad, q_ar, s_ob, s_obO, q_nth, s_ri, s_riO, s_rb, s_rbO, s_rzO, s_rl, s_rlO, s_rq, s_rqO, s_ry, s_ryO, s_dn, s_tl, s_tn, s_ap, s_an, s_ci, s_cr, s_ni, s_n0, s_n1, q_ags, q_cat, List.contains_nil, List.contains_cons, Nat.reduceBEq, Bool.or_false, Bool.false_or, Bool.true_or, Bool.false_eq_true, ↓reduceIte, Nat.le_refl, Nat.zero_le, true_and, and_true, Nat.reduceLeDiff, Nat.reduceAdd, Nat.add_zero, Nat.zero_add, List.length_cons, List.length_nil, List.set_cons_zero, List.set_cons_succ, Nat.reduceLT, s_fi, s_fl, s_fo, s_fa, s_f0, s_f1, s_set, s_ss, lg_cmp_ge, lg_cmp_le, lg_cmp_gt, lg_cmp_lt, lg_cmp_eq, s_brT, s_brF, s_10, w_Cm_isFound, r_Cm_isFound, l_Cm_isFound_0, l_Cm_isFound_29, l_Cm_isFound_47, l_Cm_isFound_48, l_Cm_isFound_65, l_Cm_isFound_92, l_Cm_isFound_94, l_Cm_isFound_123, l_Cm_isFound_127, f_1_9, kc_2, ml_1_26, w_Ta_u16, kl_1_32, kb_8, ml_1_34, w_Ta_holds, kc_0, kb_10, ml_1_38, w_Cm_firstEntry, kc_m1, kc_1, f_1_15, ty_1_1, kc_4, ml_1_42, w_Ta_u32, f_1_46, f_1_19, ty_1_2, ml_1_49, w_Cm_hasGroups, ml_1_53, w_Cm_hasSegments, hA', hT']
  refine q_c0 (Nat.le_refl _) (Nat.le_refl _) ?_
  refine c_Ta_u16 (j := 2) hT hB hin (by omega) ?_
  simp -implicitDefEqProofs only [s_go, s_nil, s_cons, q_ins, s_op, s_i, s_j, s_a, s_v, s_li, s_lj, s_la, s_liO, s_ljO, s_laO, q_get, q_p1, q_p2, s_n2i, s_n2r, s_n2l, s_n2n, q_pad, q_ar, s_ob, s_obO, q_nth, s_ri, s_riO, s_rb, s_rbO, s_rzO, s_rl, s_rlO, s_rq, s_rqO, s_ry, s_ryO, s_dn, s_tl, s_tn, s_ap, s_an, s_ci, s_cr, s_ni, s_n0, s_n1, q_ags, q_cat, List.contains_nil, List.contains_cons, Nat.reduceBEq, Bool.or_false, Bool.false_or, Bool.true_or, Bool.false_eq_true, ↓reduceIte, Nat.le_refl, Nat.zero_le, true_and, and_true, Nat.reduceLeDiff, Nat.reduceAdd, Nat.add_zero, Nat.zero_add, List.length_cons, List.length_nil, List.set_cons_zero, List.set_cons_succ, Nat.reduceLT, s_fi, s_fl, s_fo, s_fa, s_f0, s_f1, s_set, s_ss, lg_cmp_ge, lg_cmp_le, lg_cmp_gt, lg_cmp_lt, lg_cmp_eq, s_brT, s_brF, s_10, w_Cm_isFound, r_Cm_isFound, l_Cm_isFound_0, l_Cm_isFound_29, l_Cm_isFound_47, l_Cm_isFound_48, l_Cm_isFound_65, l_Cm_isFound_92, l_Cm_isFound_94, l_Cm_isFound_123, l_Cm_isFound_127, f_1_9, kc_2, ml_1_26, w_Ta_u16, kl_1_32, kb_8, ml_1_34, w_Ta_holds, kc_0, kb_10, ml_1_38, w_Cm_firstEntry, kc_m1, kc_1, f_1_15, ty_1_1, kc_4, ml_1_42, w_Ta_u32, f_1_46, f_1_19, ty_1_2, ml_1_49, w_Cm_hasGroups, ml_1_53, w_Cm_hasSegments, hA', hT']
  rw [show nI (U16 F cs cl 2) = nI (mpN F cs cl) from rfl, show (8 : Int32) * nI (mpN F cs cl) = nI (8 * mpN F cs cl) from pk_mul 8 _, nI_l (by omega)]
  refine q_c0 (Nat.le_refl _) (Nat.le_refl _) ?_
  refine c_Ta_holds (x := 4) hT (by omega) (by omega) (by omega) ?_
  simp -implicitDefEqProofs only [s_go, s_nil, s_cons, q_ins, s_op, s_i, s_j, s_a, s_v, s_li, s_lj, s_la, s_liO, s_ljO, s_laO, q_get, q_p1, q_p2, s_n2i, s_n2r, s_n2l, s_n2n, q_pad, q_ar, s_ob, s_obO, q_nth, s_ri, s_riO, s_rb, s_rbO, s_rzO, s_rl, s_rlO, s_rq, s_rqO, s_ry, s_ryO, s_dn, s_tl, s_tn, s_ap, s_an, s_ci, s_cr, s_ni, s_n0, s_n1, q_ags, q_cat, List.contains_nil, List.contains_cons, Nat.reduceBEq, Bool.or_false, Bool.false_or, Bool.true_or, Bool.false_eq_true, ↓reduceIte, Nat.le_refl, Nat.zero_le, true_and, and_true, Nat.reduceLeDiff, Nat.reduceAdd, Nat.add_zero, Nat.zero_add, List.length_cons, List.length_nil, List.set_cons_zero, List.set_cons_succ, Nat.reduceLT, s_fi, s_fl, s_fo, s_fa, s_f0, s_f1, s_set, s_ss, lg_cmp_ge, lg_cmp_le, lg_cmp_gt, lg_cmp_lt, lg_cmp_eq, s_brT, s_brF, s_10, w_Cm_isFound, r_Cm_isFound, l_Cm_isFound_0, l_Cm_isFound_29, l_Cm_isFound_47, l_Cm_isFound_48, l_Cm_isFound_65, l_Cm_isFound_92, l_Cm_isFound_94, l_Cm_isFound_123, l_Cm_isFound_127, f_1_9, kc_2, ml_1_26, w_Ta_u16, kl_1_32, kb_8, ml_1_34, w_Ta_holds, kc_0, kb_10, ml_1_38, w_Cm_firstEntry, kc_m1, kc_1, f_1_15, ty_1_1, kc_4, ml_1_42, w_Ta_u32, f_1_46, f_1_19, ty_1_2, ml_1_49, w_Cm_hasGroups, ml_1_53, w_Cm_hasSegments, hA', hT']
  by_cases c0 : 4 + 8 * mpN F cs cl ≤ cl
  · rw [q_z_t c0]
    refine ⟨fun z => absurd z (by decide), fun _ => ?_⟩
    refine q_c0 (Nat.le_refl _) (Nat.le_refl _) ?_
    refine c_Cm_firstEntry (kd := 10) hA hT hB hin bN (by omega) ?_
    simp -implicitDefEqProofs only [s_go, s_nil, s_cons, q_ins, s_op, s_i, s_j, s_a, s_v, s_li, s_lj, s_la, s_liO, s_ljO, s_laO, q_get, q_p1, q_p2, s_n2i, s_n2r, s_n2l, s_n2n, q_pad, q_ar, s_ob, s_obO, q_nth, s_ri, s_riO, s_rb, s_rbO, s_rzO, s_rl, s_rlO, s_rq, s_rqO, s_ry, s_ryO, s_dn, s_tl, s_tn, s_ap, s_an, s_ci, s_cr, s_ni, s_n0, s_n1, q_ags, q_cat, List.contains_nil, List.contains_cons, Nat.reduceBEq, Bool.or_false, Bool.false_or, Bool.true_or, Bool.false_eq_true, ↓reduceIte, Nat.le_refl, Nat.zero_le, true_and, and_true, Nat.reduceLeDiff, Nat.reduceAdd, Nat.add_zero, Nat.zero_add, List.length_cons, List.length_nil, List.set_cons_zero, List.set_cons_succ, Nat.reduceLT, s_fi, s_fl, s_fo, s_fa, s_f0, s_f1, s_set, s_ss, lg_cmp_ge, lg_cmp_le, lg_cmp_gt, lg_cmp_lt, lg_cmp_eq, s_brT, s_brF, s_10, w_Cm_isFound, r_Cm_isFound, l_Cm_isFound_0, l_Cm_isFound_29, l_Cm_isFound_47, l_Cm_isFound_48, l_Cm_isFound_65, l_Cm_isFound_92, l_Cm_isFound_94, l_Cm_isFound_123, l_Cm_isFound_127, f_1_9, kc_2, ml_1_26, w_Ta_u16, kl_1_32, kb_8, ml_1_34, w_Ta_holds, kc_0, kb_10, ml_1_38, w_Cm_firstEntry, kc_m1, kc_1, f_1_15, ty_1_1, kc_4, ml_1_42, w_Ta_u32, f_1_46, f_1_19, ty_1_2, ml_1_49, w_Cm_hasGroups, ml_1_53, w_Cm_hasSegments, hA', hT']
    have me : ∀ v, FEr F cs cl 10 0 (mpN F cs cl) = v → MAPe F cs cl = (match v with | some k => some (true, U32 F cs cl (4 + 8 * k + 4)) | none => match FEr F cs cl 1 0 (mpN F cs cl) with | some k => some (false, U32 F cs cl (4 + 8 * k + 4)) | none => none) := fun v hv => by unfold MAPe; rw [hv]
    cases h10 : FEr F cs cl 10 0 (mpN F cs cl) with
    | some k =>
      have me := me _ h10
      dsimp only at me
      have hk := FEr_lt _ _ _ h10
      refine ⟨fun c => absurd (show nI (4 + 8 * k) ≤ -1 by rw [show nI (4 + 8 * k) = -1 from c]; decide) (q_im1 (by omega)), fun _ => ?_⟩
      generalize hh1 : q_set h a _ = h1
      have A1 : h1 a = some (e_Cm tc 1 pl mn) := by rw [← hh1]; exact s_set _ _ _
      have fr : q_1 h h1 a := fun b hb => by rw [← hh1]; exact s_ne _ _ hb
      have ss : ∀ x, q_set h1 a x = q_set h a x := fun x => by rw [← hh1, s_ss]
      refine z_Cm_isFound (w := true) (oe := some k) A1 ((fr tc hta).trans hT) (hB.mv (fr f hfa) (fr row hra)) hin (fun j hj => by cases hj; omega) (fun j hj _ z => ?_) (fun _ _ q => by cases q) (fun z pl mn => ?_)
      · cases hj
        rw [ss]
        exact q1 _ ⟨c0, Or.inl ⟨_, me, z⟩⟩ me z
      · rw [ss]
        refine q0 (fun y => ?_) _ _ _ (Or.inr rfl)
        have z := z k rfl
        rw [if_pos rfl] at z
        rcases y.2 with ⟨p, e, y⟩ | ⟨p, e, y⟩
        · rw [me] at e; cases e; exact z y
        · rw [me] at e; cases e
    | none =>
      have me := me _ h10
      dsimp only at me
      refine ⟨fun _ => ?_, fun c => absurd rfl c⟩
      generalize hh1 : q_set h a _ = h1
      have A1 : h1 a = some (e_Cm tc 0 pl mn) := by rw [← hh1]; exact s_set _ _ _
      have fr : q_1 h h1 a := fun b hb => by rw [← hh1]; exact s_ne _ _ hb
      have ss : ∀ x, q_set h1 a x = q_set h a x := fun x => by rw [← hh1, s_ss]
      refine q_c0 (Nat.le_refl _) (Nat.le_refl _) ?_
      refine c_Cm_firstEntry (kd := 1) A1 ((fr tc hta).trans hT) (hB.mv (fr f hfa) (fr row hra)) hin bN (by omega) ?_
      simp -implicitDefEqProofs only [s_go, s_nil, s_cons, q_ins, s_op, s_i, s_j, s_a, s_v, s_li, s_lj, s_la, s_liO, s_ljO, s_laO, q_get, q_p1, q_p2, s_n2i, s_n2r, s_n2l, s_n2n, q_pad, q_ar, s_ob, s_obO, q_nth, s_ri, s_riO, s_rb, s_rbO, s_rzO, s_rl, s_rlO, s_rq, s_rqO, s_ry, s_ryO, s_dn, s_tl, s_tn, s_ap, s_an, s_ci, s_cr, s_ni, s_n0, s_n1, q_ags, q_cat, List.contains_nil, List.contains_cons, Nat.reduceBEq, Bool.or_false, Bool.false_or, Bool.true_or, Bool.false_eq_true, ↓reduceIte, Nat.le_refl, Nat.zero_le, true_and, and_true, Nat.reduceLeDiff, Nat.reduceAdd, Nat.add_zero, Nat.zero_add, List.length_cons, List.length_nil, List.set_cons_zero, List.set_cons_succ, Nat.reduceLT, s_fi, s_fl, s_fo, s_fa, s_f0, s_f1, s_set, s_ss, lg_cmp_ge, lg_cmp_le, lg_cmp_gt, lg_cmp_lt, lg_cmp_eq, s_brT, s_brF, s_10, w_Cm_isFound, r_Cm_isFound, l_Cm_isFound_0, l_Cm_isFound_29, l_Cm_isFound_47, l_Cm_isFound_48, l_Cm_isFound_65, l_Cm_isFound_92, l_Cm_isFound_94, l_Cm_isFound_123, l_Cm_isFound_127, f_1_9, kc_2, ml_1_26, w_Ta_u16, kl_1_32, kb_8, ml_1_34, w_Ta_holds, kc_0, kb_10, ml_1_38, w_Cm_firstEntry, kc_m1, kc_1, f_1_15, ty_1_1, kc_4, ml_1_42, w_Ta_u32, f_1_46, f_1_19, ty_1_2, ml_1_49, w_Cm_hasGroups, ml_1_53, w_Cm_hasSegments]
      refine z_Cm_isFound (w := false) (oe := FEr F cs cl 1 0 (mpN F cs cl)) A1 ((fr tc hta).trans hT) (hB.mv (fr f hfa) (fr row hra)) hin (fun j hj => by have := FEr_lt _ _ _ hj; omega) (fun _ _ q => by cases q) (fun j hj _ z => ?_) (fun z pl mn => ?_)
      · rw [ss]
        rw [hj] at me
        exact q2 _ ⟨c0, Or.inr ⟨_, me, z⟩⟩ me z
      · rw [ss]
        refine q0 (fun y => ?_) _ _ _ (Or.inl rfl)
        cases h1' : FEr F cs cl 1 0 (mpN F cs cl) with
        | none =>
          rw [h1'] at me
          dsimp only at me
          rcases y.2 with ⟨p, e, y⟩ | ⟨p, e, y⟩ <;> (rw [me] at e; cases e)
        | some j =>
          rw [h1'] at me
          dsimp only at me
          have z := z j h1'
          rw [if_neg (by decide)] at z
          rcases y.2 with ⟨p, e, y⟩ | ⟨p, e, y⟩
          · rw [me] at e; cases e
          · rw [me] at e; cases e; exact z y
  · rw [q_z_f c0]
    exact ⟨fun _ => q0' (fun z => c0 z.1), fun z => absurd rfl z⟩
/-- the glyph of a character by groups, from k on among r -/
def GGr (F : Nat → Nat) (cs cl p c : Nat) : Nat → Nat → Nat
  | _, 0 => 0
  | k, r + 1 => if g_f F cs cl p k ≤ c ∧ c ≤ g_l F cs cl p k then (U32 F cs cl (p + 16 + 12 * k + 8) + (c - g_f F cs cl p k)) % 4294967296 else GGr F cs cl p c (k + 1) r
set_option maxRecDepth 100000 in
set_option maxHeartbeats 4000000 in
theorem z_Cm_glyphByGroups {G : q_G} {l : Launch} {d a tc f row m n sz cs cl p N c : Nat} {og : Int32} {g : Nat → Int32} {F : Nat → Nat} {h : q_H} {Q : q_P} (hA : h a = some (e_Cm tc og (nI p) (nI N))) (hT : q_Ta h tc f cs cl) (hB : q_By h f row m g sz F) (hin : cs + cl ≤ sz) (hp : p ≤ 16384) (hN : N ≤ 16384) (hc : c ≤ 1114111) :
    ∀ (r k : Nat), k + r = N → Q (some (.long (lN (GGr F cs cl p c k r)))) h n → q_Z G l M_Cm_glyphByGroups (d + 2) 0 0 Q 2 [some (.ref a), some (.int (nI c)), some (.int (nI k)), none, none, none] [] h n 0 0 := by
  have hF := hB.2.2.2.2.2.2
  unfold e_Cm at hA
  have hT' : h tc = some (.inr (6, [.ref f, .int (nI cs), .int (nI cl)])) := hT
  intro r
  induction r with
  | zero =>
    intro k hk hq
    refine q_at o_Cm_glyphByGroups [2] 20 l_Cm_glyphByGroups_2 ?_
    simp -implicitDefEqProofs only [s_go, s_nil, s_cons, q_ins, s_op, s_i, s_j, s_a, s_v, s_li, s_lj, s_la, s_liO, s_ljO, s_laO, q_get, q_p1, q_p2, s_n2i, s_n2r, s_n2l, s_n2n, q_pad, q_ar, s_ob, s_obO, q_nth, s_ri, s_riO, s_rb, s_rbO, s_rzO, s_rl, s_rlO, s_rq, s_rqO, s_ry, s_ryO, s_dn, s_tl, s_tn, s_ap, s_an, s_ci, s_cr, s_ni, s_n0, s_n1, q_ags, q_cat, List.contains_nil, List.contains_cons, Nat.reduceBEq, Bool.or_false, Bool.false_or, Bool.true_or, Bool.false_eq_true, ↓reduceIte, Nat.le_refl, Nat.zero_le, true_and, and_true, Nat.reduceLeDiff, Nat.reduceAdd, Nat.add_zero, Nat.zero_add, List.length_cons, List.length_nil, List.set_cons_zero, List.set_cons_succ, Nat.reduceLT, s_fi, s_fl, s_fo, s_fa, s_f0, s_f1, s_set, s_ss, lg_cmp_ge, lg_cmp_le, lg_cmp_gt, lg_cmp_lt, lg_cmp_eq, s_brT, s_brF, s_10, w_Cm_glyphByGroups, r_Cm_glyphByGroups, l_Cm_glyphByGroups_0, l_Cm_glyphByGroups_2, l_Cm_glyphByGroups_79, l_Cm_glyphByGroups_85, kc_0, f_1_23, f_1_19, kb_16, kb_12, f_1_9, ml_1_42, w_Ta_u32, kc_4, kb_8, kl_1_77, kc_1, kj_0, hA, hT']
    exact ⟨fun _ => hq, fun c => absurd (nI_le (by omega) (by omega)) c⟩
  | succ r ih =>
    intro k hk hq
    have b1 := U32_lt hF cs cl (p + 16 + 12 * k)
    have b2 := U32_lt hF cs cl (p + 16 + 12 * k + 4)
    have b3 := U32_lt hF cs cl (p + 16 + 12 * k + 8)
    refine q_at o_Cm_glyphByGroups [2] 20 l_Cm_glyphByGroups_2 ?_
    simp -implicitDefEqProofs only [s_go, s_nil, s_cons, q_ins, s_op, s_i, s_j, s_a, s_v, s_li, s_lj, s_la, s_liO, s_ljO, s_laO, q_get, q_p1, q_p2, s_n2i, s_n2r, s_n2l, s_n2n, q_pad, q_ar, s_ob, s_obO, q_nth, s_ri, s_riO, s_rb, s_rbO, s_rzO, s_rl, s_rlO, s_rq, s_rqO, s_ry, s_ryO, s_dn, s_tl, s_tn, s_ap, s_an, s_ci, s_cr, s_ni, s_n0, s_n1, q_ags, q_cat, List.contains_nil, List.contains_cons, Nat.reduceBEq, Bool.or_false, Bool.false_or, Bool.true_or, Bool.false_eq_true, ↓reduceIte, Nat.le_refl, Nat.zero_le, true_and, and_true, Nat.reduceLeDiff, Nat.reduceAdd, Nat.add_zero, Nat.zero_add, List.length_cons, List.length_nil, List.set_cons_zero, List.set_cons_succ, Nat.reduceLT, s_fi, s_fl, s_fo, s_fa, s_f0, s_f1, s_set, s_ss, lg_cmp_ge, lg_cmp_le, lg_cmp_gt, lg_cmp_lt, lg_cmp_eq, s_brT, s_brF, s_10, w_Cm_glyphByGroups, r_Cm_glyphByGroups, l_Cm_glyphByGroups_0, l_Cm_glyphByGroups_2, l_Cm_glyphByGroups_79, l_Cm_glyphByGroups_85, kc_0, f_1_23, f_1_19, kb_16, kb_12, f_1_9, ml_1_42, w_Ta_u32, kc_4, kb_8, kl_1_77, kc_1, kj_0, hA, hT']
    refine ⟨fun c => absurd ((nI_leI (by omega) (by omega)).mp c) (by omega), fun _ => ?_⟩
    rw [show (12 : Int32) * nI k = nI (12 * k) from pk_mul 12 k, show nI p + 16 = nI (p + 16) from nI_add p 16, nI_add]
    refine q_c0 (Nat.le_refl _) (Nat.le_refl _) ?_
    refine c_Ta_u32 hT hB hin (by omega) ?_
    simp -implicitDefEqProofs only [s_go, s_nil, s_cons, q_ins, s_op, s_i, s_j, s_a, s_v, s_li, s_lj, s_la, s_liO, s_ljO, s_laO, q_get, q_p1, q_p2, s_n2i, s_n2r, s_n2l, s_n2n, q_pad, q_ar, s_ob, s_obO, q_nth, s_ri, s_riO, s_rb, s_rbO, s_rzO, s_rl, s_rlO, s_rq, s_rqO, s_ry, s_ryO, s_dn, s_tl, s_tn, s_ap, s_an, s_ci, s_cr, s_ni, s_n0, s_n1, q_ags, q_cat, List.contains_nil, List.contains_cons, Nat.reduceBEq, Bool.or_false, Bool.false_or, Bool.true_or, Bool.false_eq_true, ↓reduceIte, Nat.le_refl, Nat.zero_le, true_and, and_true, Nat.reduceLeDiff, Nat.reduceAdd, Nat.add_zero, Nat.zero_add, List.length_cons, List.length_nil, List.set_cons_zero, List.set_cons_succ, Nat.reduceLT, s_fi, s_fl, s_fo, s_fa, s_f0, s_f1, s_set, s_ss, lg_cmp_ge, lg_cmp_le, lg_cmp_gt, lg_cmp_lt, lg_cmp_eq, s_brT, s_brF, s_10, w_Cm_glyphByGroups, r_Cm_glyphByGroups, l_Cm_glyphByGroups_0, l_Cm_glyphByGroups_2, l_Cm_glyphByGroups_79, l_Cm_glyphByGroups_85, kc_0, f_1_23, f_1_19, kb_16, kb_12, f_1_9, ml_1_42, w_Ta_u32, kc_4, kb_8, kl_1_77, kc_1, kj_0, hA, hT', nI_l (show c < 2 ^ 31 by omega)]
    rw [pk_lLT (by omega) (by omega)]
    have nxt : ¬ (g_f F cs cl p k ≤ c ∧ c ≤ g_l F cs cl p k) → q_Z G l M_Cm_glyphByGroups (d + 2) 0 0 Q 2 [some (.ref a), some (.int (nI c)), some (.int (nI (k + 1))), none, none, none] [] h n 0 0 := by
      intro y
      refine ih (k + 1) (by omega) ?_
      have e : GGr F cs cl p c k (r + 1) = GGr F cs cl p c (k + 1) r := by
        show (if _ then _ else GGr F cs cl p c (k + 1) r) = _
        rw [if_neg y]
      rw [e] at hq
      exact hq
    refine ⟨fun y => q_wk (nxt (fun z => by have := z.1; unfold g_f at this; omega)) ⟨rfl, rfl, by rw [nI_1], trivial⟩, fun y => ?_⟩
    rw [show nI (p + 16 + 12 * k) + 4 = nI (p + 16 + 12 * k + 4) from nI_add _ 4]
    refine q_c0 (Nat.le_refl _) (Nat.le_refl _) ?_
    refine c_Ta_u32 hT hB hin (by omega) ?_
    simp -implicitDefEqProofs only [s_go, s_nil, s_cons, q_ins, s_op, s_i, s_j, s_a, s_v, s_li, s_lj, s_la, s_liO, s_ljO, s_laO, q_get, q_p1, q_p2, s_n2i, s_n2r, s_n2l, s_n2n, q_pad, q_ar, s_ob, s_obO, q_nth, s_ri, s_riO, s_rb, s_rbO, s_rzO, s_rl, s_rlO, s_rq, s_rqO, s_ry, s_ryO, s_dn, s_tl, s_tn, s_ap, s_an, s_ci, s_cr, s_ni, s_n0, s_n1, q_ags, q_cat, List.contains_nil, List.contains_cons, Nat.reduceBEq, Bool.or_false, Bool.false_or, Bool.true_or, Bool.false_eq_true, ↓reduceIte, Nat.le_refl, Nat.zero_le, true_and, and_true, Nat.reduceLeDiff, Nat.reduceAdd, Nat.add_zero, Nat.zero_add, List.length_cons, List.length_nil, List.set_cons_zero, List.set_cons_succ, Nat.reduceLT, s_fi, s_fl, s_fo, s_fa, s_f0, s_f1, s_set, s_ss, lg_cmp_ge, lg_cmp_le, lg_cmp_gt, lg_cmp_lt, lg_cmp_eq, s_brT, s_brF, s_10, w_Cm_glyphByGroups, r_Cm_glyphByGroups, l_Cm_glyphByGroups_0, l_Cm_glyphByGroups_2, l_Cm_glyphByGroups_79, l_Cm_glyphByGroups_85, kc_0, f_1_23, f_1_19, kb_16, kb_12, f_1_9, ml_1_42, w_Ta_u32, kc_4, kb_8, kl_1_77, kc_1, kj_0, hA, hT', nI_l (show c < 2 ^ 31 by omega)]
    rw [pk_lLT (by omega) (by omega)]
    refine ⟨fun y1 => q_wk (nxt (fun z => by have := z.2; unfold g_l at this; omega)) ⟨rfl, rfl, by rw [nI_1], trivial⟩, fun y1 => ?_⟩
    rw [show nI (p + 16 + 12 * k) + 8 = nI (p + 16 + 12 * k + 8) from nI_add _ 8]
    refine q_c0 (Nat.le_refl _) (Nat.le_refl _) ?_
    refine c_Ta_u32 hT hB hin (by omega) ?_
    simp -implicitDefEqProofs only [s_go, s_nil, s_cons, q_ins, s_op, s_i, s_j, s_a, s_v, s_li, s_lj, s_la, s_liO, s_ljO, s_laO, q_get, q_p1, q_p2, s_n2i, s_n2r, s_n2l, s_n2n, q_pad, q_ar, s_ob, s_obO, q_nth, s_ri, s_riO, s_rb, s_rbO, s_rzO, s_rl, s_rlO, s_rq, s_rqO, s_ry, s_ryO, s_dn, s_tl, s_tn, s_ap, s_an, s_ci, s_cr, s_ni, s_n0, s_n1, q_ags, q_cat, List.contains_nil, List.contains_cons, Nat.reduceBEq, Bool.or_false, Bool.false_or, Bool.true_or, Bool.false_eq_true, ↓reduceIte, Nat.le_refl, Nat.zero_le, true_and, and_true, Nat.reduceLeDiff, Nat.reduceAdd, Nat.add_zero, Nat.zero_add, List.length_cons, List.length_nil, List.set_cons_zero, List.set_cons_succ, Nat.reduceLT, s_fi, s_fl, s_fo, s_fa, s_f0, s_f1, s_set, s_ss, lg_cmp_ge, lg_cmp_le, lg_cmp_gt, lg_cmp_lt, lg_cmp_eq, s_brT, s_brF, s_10, w_Cm_glyphByGroups, r_Cm_glyphByGroups, l_Cm_glyphByGroups_0, l_Cm_glyphByGroups_2, l_Cm_glyphByGroups_79, l_Cm_glyphByGroups_85, kc_0, f_1_23, f_1_19, kb_16, kb_12, f_1_9, ml_1_42, w_Ta_u32, kc_4, kb_8, kl_1_77, kc_1, kj_0, hA, hT', nI_l (show c < 2 ^ 31 by omega), lN_sub (show U32 F cs cl (p + 16 + 12 * k) ≤ c by omega), lN_add]
    rw [lN_mask (by omega)]
    have e : GGr F cs cl p c k (r + 1) = (U32 F cs cl (p + 16 + 12 * k + 8) + (c - g_f F cs cl p k)) % 4294967296 := by
      show (if _ then _ else GGr F cs cl p c (k + 1) r) = _
      rw [if_pos ⟨by unfold g_f; omega, by unfold g_l; omega⟩]
    rw [e] at hq
    exact hq
set_option maxRecDepth 100000 in
set_option maxHeartbeats 4000000 in
theorem c_Cm_glyphByGroups {G : q_G} {l : Launch} {d a tc f row m n sz cs cl p N c : Nat} {og : Int32} {g : Nat → Int32} {F : Nat → Nat} {h : q_H} {Q : q_P} (hA : h a = some (e_Cm tc og (nI p) (nI N))) (hT : q_Ta h tc f cs cl) (hB : q_By h f row m g sz F) (hin : cs + cl ≤ sz) (hp : p ≤ 16384) (hN : N ≤ 16384) (hc : c ≤ 1114111) (hq : Q (some (.long (lN (GGr F cs cl p c 0 N)))) h n) : q_Call G l M_Cm_glyphByGroups (d + 2) 0 0 [.ref a, .int (nI c)] h n Q := by
  refine q_in u_Cm_glyphByGroups (by rw [L_Cm_glyphByGroups]; exact Nat.le_of_ble_eq_true rfl) ?_
  rw [L_Cm_glyphByGroups]
  refine q_at o_Cm_glyphByGroups [2] 20 l_Cm_glyphByGroups_0 ?_
  simp -implicitDefEqProofs only [s_go, s_nil, s_cons, q_ins, s_op, s_i, s_j, s_a, s_v, s_li, s_lj, s_la, s_liO, s_ljO, s_laO, q_get, q_p1, q_p2, s_n2i, s_n2r, s_n2l, s_n2n, q_pad, q_ar, s_ob, s_obO, q_nth, s_ri, s_riO, s_rb, s_rbO, s_rzO, s_rl, s_rlO, s_rq, s_rqO, s_ry, s_ryO, s_dn, s_tl, s_tn, s_ap, s_an, s_ci, s_cr, s_ni, s_n0, s_n1, q_ags, q_cat, List.contains_nil, List.contains_cons, Nat.reduceBEq, Bool.or_false, Bool.false_or, Bool.true_or, Bool.false_eq_true, ↓reduceIte, Nat.le_refl, Nat.zero_le, true_and, and_true, Nat.reduceLeDiff, Nat.reduceAdd, Nat.add_zero, Nat.zero_add, List.length_cons, List.length_nil, List.set_cons_zero, List.set_cons_succ, Nat.reduceLT, s_fi, s_fl, s_fo, s_fa, s_f0, s_f1, s_set, s_ss, lg_cmp_ge, lg_cmp_le, lg_cmp_gt, lg_cmp_lt, lg_cmp_eq, s_brT, s_brF, s_10, w_Cm_glyphByGroups, r_Cm_glyphByGroups, l_Cm_glyphByGroups_0, l_Cm_glyphByGroups_2, l_Cm_glyphByGroups_79, l_Cm_glyphByGroups_85, kc_0, f_1_23, f_1_19, kb_16, kb_12, f_1_9, ml_1_42, w_Ta_u32, kc_4, kb_8, kl_1_77, kc_1, kj_0]
  exact z_Cm_glyphByGroups hA hT hB hin hp hN hc N 0 (by omega) hq
/-- by the segment k -/
def SGw (F : Nat → Nat) (cs cl p S k : Nat) : Nat := U16 F cs cl (p + 16 + 6 * S + 2 * k)
def SG1 (F : Nat → Nat) (cs cl p S k c : Nat) : Nat :=
  if SGw F cs cl p S k = 0 then (c + U16 F cs cl (p + 16 + 4 * S + 2 * k)) % 65536
  else if p + 16 + 6 * S + 2 * k + SGw F cs cl p S k + 2 * (c - s_fi' F cs cl p S k) + 2 ≤ cl ∧ U16 F cs cl (p + 16 + 6 * S + 2 * k + SGw F cs cl p S k + 2 * (c - s_fi' F cs cl p S k)) ≠ 0 then (U16 F cs cl (p + 16 + 6 * S + 2 * k + SGw F cs cl p S k + 2 * (c - s_fi' F cs cl p S k)) + U16 F cs cl (p + 16 + 4 * S + 2 * k)) % 65536 else 0
theorem q_m16 {a : Nat} (h : a < 2 ^ 31) : nI a &&& 65535 = nI (a % 65536) := pk_andN (by omega) 16 (by decide)
set_option maxRecDepth 100000 in
set_option maxHeartbeats 4000000 in
theorem c_Cm_glyphBySegment {G : q_G} {l : Launch} {d a tc f row m n sz cs cl p S k c : Nat} {og : Int32} {g : Nat → Int32} {F : Nat → Nat} {h : q_H} {Q : q_P} (hA : h a = some (e_Cm tc og (nI p) (nI S))) (hT : q_Ta h tc f cs cl) (hB : q_By h f row m g sz F) (hin : cs + cl ≤ sz) (hp : p ≤ 16384) (hS : S ≤ 32768) (hk : k < S) (hc : c ≤ 65535) (hfc : s_fi' F cs cl p S k ≤ c) (hq : Q (some (.int (nI (SG1 F cs cl p S k c)))) h n) : q_Call G l M_Cm_glyphBySegment (d + 3) 0 0 [.ref a, .int (nI k), .int (nI c)] h n Q := by
  have hF := hB.2.2.2.2.2.2
  have hs : sz ≤ 16384 := Nat.le_trans hB.2.2.1 hB.2.2.2.1
  have hA' := hA
  unfold e_Cm at hA'
  have hT' : h tc = some (.inr (6, [.ref f, .int (nI cs), .int (nI cl)])) := hT
  have bd := U16_lt hF cs cl (p + 16 + 4 * S + 2 * k)
  have bw := U16_lt hF cs cl (p + 16 + 6 * S + 2 * k)
  have e4 : (4 : Int32) * nI S = nI (4 * S) := pk_mul 4 S
  have e6 : (6 : Int32) * nI S = nI (6 * S) := pk_mul 6 S
  have e2 : (2 : Int32) * nI k = nI (2 * k) := pk_mul 2 k
  have e16 : nI p + 16 = nI (p + 16) := nI_add p 16
  unfold SG1 SGw at hq
  refine q_in u_Cm_glyphBySegment (by rw [L_Cm_glyphBySegment]; exact Nat.le_of_ble_eq_true rfl) ?_
  rw [L_Cm_glyphBySegment]
  refine q_at o_Cm_glyphBySegment [] 20 l_Cm_glyphBySegment_0 ?_
  simp -implicitDefEqProofs only [s_go, s_nil, s_cons, q_ins, s_op, s_i, s_j, s_a, s_v, s_li, s_lj, s_la, s_liO, s_ljO, s_laO, q_get, q_p1, q_p2, s_n2i, s_n2r, s_n2l, s_n2n, q_pad, q_ar, s_ob, s_obO, q_nth, s_ri, s_riO, s_rb, s_rbO, s_rzO, s_rl, s_rlO, s_rq, s_rqO, s_ry, s_ryO, s_dn, s_tl, s_tn, s_ap, s_an, s_ci, s_cr, s_ni, s_n0, s_n1, q_ags, q_cat, List.contains_nil, List.contains_cons, Nat.reduceBEq, Bool.or_false, Bool.false_or, Bool.true_or, Bool.false_eq_true, ↓reduceIte, Nat.le_refl, Nat.zero_le, true_and, and_true, Nat.reduceLeDiff, Nat.reduceAdd, Nat.add_zero, Nat.zero_add, List.length_cons, List.length_nil, List.set_cons_zero, List.set_cons_succ, Nat.reduceLT, s_fi, s_fl, s_fo, s_fa, s_f0, s_f1, s_set, s_ss, lg_cmp_ge, lg_cmp_le, lg_cmp_gt, lg_cmp_lt, lg_cmp_eq, s_brT, s_brF, s_10, w_Cm_glyphBySegment, r_Cm_glyphBySegment, l_Cm_glyphBySegment_0, l_Cm_glyphBySegment_70, l_Cm_glyphBySegment_115, l_Cm_glyphBySegment_117, f_1_9, f_1_19, kb_16, kc_4, f_1_23, kc_2, ml_1_26, w_Ta_u16, kb_6, ki_1_70, ml_1_67, w_Cm_firstOf, kl_1_82, ml_1_34, w_Ta_holds, kc_0, hA', hT', e4, e2, e16, nI_add]
  refine q_c0 (Nat.le_refl _) (Nat.le_refl _) ?_
  refine c_Ta_u16 hT hB hin (by omega) ?_
  simp -implicitDefEqProofs only [s_go, s_nil, s_cons, q_ins, s_op, s_i, s_j, s_a, s_v, s_li, s_lj, s_la, s_liO, s_ljO, s_laO, q_get, q_p1, q_p2, s_n2i, s_n2r, s_n2l, s_n2n, q_pad, q_ar, s_ob, s_obO, q_nth, s_ri, s_riO, s_rb, s_rbO, s_rzO, s_rl, s_rlO, s_rq, s_rqO, s_ry, s_ryO, s_dn, s_tl, s_tn, s_ap, s_an, s_ci, s_cr, s_ni, s_n0, s_n1, q_ags, q_cat, List.contains_nil, List.contains_cons, Nat.reduceBEq, Bool.or_false, Bool.false_or, Bool.true_or, Bool.false_eq_true, ↓reduceIte, Nat.le_refl, Nat.zero_le, true_and, and_true, Nat.reduceLeDiff, Nat.reduceAdd, Nat.add_zero, Nat.zero_add, List.length_cons, List.length_nil, List.set_cons_zero, List.set_cons_succ, Nat.reduceLT, s_fi, s_fl, s_fo, s_fa, s_f0, s_f1, s_set, s_ss, lg_cmp_ge, lg_cmp_le, lg_cmp_gt, lg_cmp_lt, lg_cmp_eq, s_brT, s_brF, s_10, w_Cm_glyphBySegment, r_Cm_glyphBySegment, l_Cm_glyphBySegment_0, l_Cm_glyphBySegment_70, l_Cm_glyphBySegment_115, l_Cm_glyphBySegment_117, f_1_9, f_1_19, kb_16, kc_4, f_1_23, kc_2, ml_1_26, w_Ta_u16, kb_6, ki_1_70, ml_1_67, w_Cm_firstOf, kl_1_82, ml_1_34, w_Ta_holds, kc_0, hA', hT', e6, e2, e16, nI_add]
  refine q_c0 (Nat.le_refl _) (Nat.le_refl _) ?_
  refine c_Ta_u16 hT hB hin (by omega) ?_
  simp -implicitDefEqProofs only [s_go, s_nil, s_cons, q_ins, s_op, s_i, s_j, s_a, s_v, s_li, s_lj, s_la, s_liO, s_ljO, s_laO, q_get, q_p1, q_p2, s_n2i, s_n2r, s_n2l, s_n2n, q_pad, q_ar, s_ob, s_obO, q_nth, s_ri, s_riO, s_rb, s_rbO, s_rzO, s_rl, s_rlO, s_rq, s_rqO, s_ry, s_ryO, s_dn, s_tl, s_tn, s_ap, s_an, s_ci, s_cr, s_ni, s_n0, s_n1, q_ags, q_cat, List.contains_nil, List.contains_cons, Nat.reduceBEq, Bool.or_false, Bool.false_or, Bool.true_or, Bool.false_eq_true, ↓reduceIte, Nat.le_refl, Nat.zero_le, true_and, and_true, Nat.reduceLeDiff, Nat.reduceAdd, Nat.add_zero, Nat.zero_add, List.length_cons, List.length_nil, List.set_cons_zero, List.set_cons_succ, Nat.reduceLT, s_fi, s_fl, s_fo, s_fa, s_f0, s_f1, s_set, s_ss, lg_cmp_ge, lg_cmp_le, lg_cmp_gt, lg_cmp_lt, lg_cmp_eq, s_brT, s_brF, s_10, w_Cm_glyphBySegment, r_Cm_glyphBySegment, l_Cm_glyphBySegment_0, l_Cm_glyphBySegment_70, l_Cm_glyphBySegment_115, l_Cm_glyphBySegment_117, f_1_9, f_1_19, kb_16, kc_4, f_1_23, kc_2, ml_1_26, w_Ta_u16, kb_6, ki_1_70, ml_1_67, w_Cm_firstOf, kl_1_82, ml_1_34, w_Ta_holds, kc_0, hA', hT', nI_add]
  rw [show (nI (U16 F cs cl (p + 16 + 6 * S + 2 * k)) = (0 : Int32)) = (U16 F cs cl (p + 16 + 6 * S + 2 * k) = 0) from propext (nI_eq (b := 0) (by omega) (by omega))]
  refine ⟨fun y => ?_, fun y => ?_⟩
  · rw [if_pos y] at hq
    rw [q_m16 (by omega)]
    exact hq
  · rw [if_neg y] at hq
    refine q_c0 (Nat.le_refl _) (Nat.le_refl _) ?_
    refine c_Cm_firstOf hA hT hB hin hp (by omega) (by omega) ?_
    have e7 : nI c - nI (s_fi' F cs cl p S k) = nI (c - s_fi' F cs cl p S k) := pk_sub hfc
    have e8 : (2 : Int32) * nI (c - s_fi' F cs cl p S k) = nI (2 * (c - s_fi' F cs cl p S k)) := pk_mul 2 _
    rw [show nI (U16 F cs cl (p + 16 + 2 * S + 2 * k)) = nI (s_fi' F cs cl p S k) from rfl]
    generalize hP : p + 16 + 6 * S + 2 * k + U16 F cs cl (p + 16 + 6 * S + 2 * k) + 2 * (c - s_fi' F cs cl p S k) = P at *
    simp -implicitDefEqProofs only [s_go, s_nil, s_cons, q_ins, s_op, s_i, s_j, s_a, s_v, s_li, s_lj, s_la, s_liO, s_ljO, s_laO, q_get, q_p1, q_p2, s_n2i, s_n2r, s_n2l, s_n2n, q_pad, q_ar, s_ob, s_obO, q_nth, s_ri, s_riO, s_rb, s_rbO, s_rzO, s_rl, s_rlO, s_rq, s_rqO, s_ry, s_ryO, s_dn, s_tl, s_tn, s_ap, s_an, s_ci, s_cr, s_ni, s_n0, s_n1, q_ags, q_cat, List.contains_nil, List.contains_cons, Nat.reduceBEq, Bool.or_false, Bool.false_or, Bool.true_or, Bool.false_eq_true, ↓reduceIte, Nat.le_refl, Nat.zero_le, true_and, and_true, Nat.reduceLeDiff, Nat.reduceAdd, Nat.add_zero, Nat.zero_add, List.length_cons, List.length_nil, List.set_cons_zero, List.set_cons_succ, Nat.reduceLT, s_fi, s_fl, s_fo, s_fa, s_f0, s_f1, s_set, s_ss, lg_cmp_ge, lg_cmp_le, lg_cmp_gt, lg_cmp_lt, lg_cmp_eq, s_brT, s_brF, s_10, w_Cm_glyphBySegment, r_Cm_glyphBySegment, l_Cm_glyphBySegment_0, l_Cm_glyphBySegment_70, l_Cm_glyphBySegment_115, l_Cm_glyphBySegment_117, f_1_9, f_1_19, kb_16, kc_4, f_1_23, kc_2, ml_1_26, w_Ta_u16, kb_6, ki_1_70, ml_1_67, w_Cm_firstOf, kl_1_82, ml_1_34, w_Ta_holds, kc_0, hA', hT', e7, e8, nI_add, hP, nI_l (show P < 2 ^ 31 by omega)]
    refine q_c0 (Nat.le_refl _) (Nat.le_refl _) ?_
    refine c_Ta_holds (x := P) (y := 2) hT (by omega) (by omega) (by omega) ?_
    simp -implicitDefEqProofs only [s_go, s_nil, s_cons, q_ins, s_op, s_i, s_j, s_a, s_v, s_li, s_lj, s_la, s_liO, s_ljO, s_laO, q_get, q_p1, q_p2, s_n2i, s_n2r, s_n2l, s_n2n, q_pad, q_ar, s_ob, s_obO, q_nth, s_ri, s_riO, s_rb, s_rbO, s_rzO, s_rl, s_rlO, s_rq, s_rqO, s_ry, s_ryO, s_dn, s_tl, s_tn, s_ap, s_an, s_ci, s_cr, s_ni, s_n0, s_n1, q_ags, q_cat, List.contains_nil, List.contains_cons, Nat.reduceBEq, Bool.or_false, Bool.false_or, Bool.true_or, Bool.false_eq_true, ↓reduceIte, Nat.le_refl, Nat.zero_le, true_and, and_true, Nat.reduceLeDiff, Nat.reduceAdd, Nat.add_zero, Nat.zero_add, List.length_cons, List.length_nil, List.set_cons_zero, List.set_cons_succ, Nat.reduceLT, s_fi, s_fl, s_fo, s_fa, s_f0, s_f1, s_set, s_ss, lg_cmp_ge, lg_cmp_le, lg_cmp_gt, lg_cmp_lt, lg_cmp_eq, s_brT, s_brF, s_10, w_Cm_glyphBySegment, r_Cm_glyphBySegment, l_Cm_glyphBySegment_0, l_Cm_glyphBySegment_70, l_Cm_glyphBySegment_115, l_Cm_glyphBySegment_117, f_1_9, f_1_19, kb_16, kc_4, f_1_23, kc_2, ml_1_26, w_Ta_u16, kb_6, ki_1_70, ml_1_67, w_Cm_firstOf, kl_1_82, ml_1_34, w_Ta_holds, kc_0, hA', hT']
    have bl := U16_lt hF cs cl P
    by_cases c1 : P + 2 ≤ cl
    · rw [q_z_t c1]
      refine ⟨fun z => absurd z (by decide), fun _ => ?_⟩
      refine q_c0 (Nat.le_refl _) (Nat.le_refl _) ?_
      refine c_Ta_u16 hT hB hin (by omega) ?_
      simp -implicitDefEqProofs only [s_go, s_nil, s_cons, q_ins, s_op, s_i, s_j, s_a, s_v, s_li, s_lj, s_la, s_liO, s_ljO, s_laO, q_get, q_p1, q_p2, s_n2i, s_n2r, s_n2l, s_n2n, q_pad, q_ar, s_ob, s_obO, q_nth, s_ri, s_riO, s_rb, s_rbO, s_rzO, s_rl, s_rlO, s_rq, s_rqO, s_ry, s_ryO, s_dn, s_tl, s_tn, s_ap, s_an, s_ci, s_cr, s_ni, s_n0, s_n1, q_ags, q_cat, List.contains_nil, List.contains_cons, Nat.reduceBEq, Bool.or_false, Bool.false_or, Bool.true_or, Bool.false_eq_true, ↓reduceIte, Nat.le_refl, Nat.zero_le, true_and, and_true, Nat.reduceLeDiff, Nat.reduceAdd, Nat.add_zero, Nat.zero_add, List.length_cons, List.length_nil, List.set_cons_zero, List.set_cons_succ, Nat.reduceLT, s_fi, s_fl, s_fo, s_fa, s_f0, s_f1, s_set, s_ss, lg_cmp_ge, lg_cmp_le, lg_cmp_gt, lg_cmp_lt, lg_cmp_eq, s_brT, s_brF, s_10, w_Cm_glyphBySegment, r_Cm_glyphBySegment, l_Cm_glyphBySegment_0, l_Cm_glyphBySegment_70, l_Cm_glyphBySegment_115, l_Cm_glyphBySegment_117, f_1_9, f_1_19, kb_16, kc_4, f_1_23, kc_2, ml_1_26, w_Ta_u16, kb_6, ki_1_70, ml_1_67, w_Cm_firstOf, kl_1_82, ml_1_34, w_Ta_holds, kc_0, hA', hT']
      rw [show (nI (U16 F cs cl P) = (0 : Int32)) = (U16 F cs cl P = 0) from propext (nI_eq (b := 0) (by omega) (by omega))]
      refine ⟨fun c2 => ?_, fun c2 => ?_⟩
      · rw [if_neg (fun z => z.2 c2)] at hq
        exact hq
      · rw [if_pos ⟨c1, c2⟩] at hq
        refine q_c0 (Nat.le_refl _) (Nat.le_refl _) ?_
        refine c_Ta_u16 hT hB hin (by omega) ?_
        simp -implicitDefEqProofs only [s_go, s_nil, s_cons, q_ins, s_op, s_i, s_j, s_a, s_v, s_li, s_lj, s_la, s_liO, s_ljO, s_laO, q_get, q_p1, q_p2, s_n2i, s_n2r, s_n2l, s_n2n, q_pad, q_ar, s_ob, s_obO, q_nth, s_ri, s_riO, s_rb, s_rbO, s_rzO, s_rl, s_rlO, s_rq, s_rqO, s_ry, s_ryO, s_dn, s_tl, s_tn, s_ap, s_an, s_ci, s_cr, s_ni, s_n0, s_n1, q_ags, q_cat, List.contains_nil, List.contains_cons, Nat.reduceBEq, Bool.or_false, Bool.false_or, Bool.true_or, Bool.false_eq_true, ↓reduceIte, Nat.le_refl, Nat.zero_le, true_and, and_true, Nat.reduceLeDiff, Nat.reduceAdd, Nat.add_zero, Nat.zero_add, List.length_cons, List.length_nil, List.set_cons_zero, List.set_cons_succ, Nat.reduceLT, s_fi, s_fl, s_fo, s_fa, s_f0, s_f1, s_set, s_ss, lg_cmp_ge, lg_cmp_le, lg_cmp_gt, lg_cmp_lt, lg_cmp_eq, s_brT, s_brF, s_10, w_Cm_glyphBySegment, r_Cm_glyphBySegment, l_Cm_glyphBySegment_0, l_Cm_glyphBySegment_70, l_Cm_glyphBySegment_115, l_Cm_glyphBySegment_117, f_1_9, f_1_19, kb_16, kc_4, f_1_23, kc_2, ml_1_26, w_Ta_u16, kb_6, ki_1_70, ml_1_67, w_Cm_firstOf, kl_1_82, ml_1_34, w_Ta_holds, kc_0, nI_add]
        rw [q_m16 (by omega)]
        exact hq
    · rw [q_z_f c1]
      rw [if_neg (fun z => c1 z.1)] at hq
      exact ⟨fun _ => hq, fun z => absurd rfl z⟩
