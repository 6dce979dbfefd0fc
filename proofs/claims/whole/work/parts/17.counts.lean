/-! Font: counts, places -/
/-- head (hs, hl), maxp (xs, xl), hhea (is, il), hmtx of ml bytes -/
def CNT_ok (F : Nat → Nat) (hs hl xs xl is il ml : Nat) : Prop :=
  (54 ≤ hl ∧ 6 ≤ xl ∧ 36 ≤ il) ∧ 16 ≤ U16 F hs hl 18 ∧ U16 F hs hl 18 ≤ 16384 ∧ U16 F hs hl 50 ≤ 1 ∧ 1 ≤ U16 F xs xl 4 ∧ U16 F xs xl 4 ≤ 256 ∧ 1 ≤ U16 F is il 34 ∧ U16 F is il 34 ≤ U16 F xs xl 4 ∧ 4 * U16 F is il 34 + 2 * (U16 F xs xl 4 - U16 F is il 34) ≤ ml
theorem s_fz {p : Prop} [Decidable p] : q_fit .boolean (.int (q_z p)) := by
  unfold q_z; split <;> exact ⟨rfl, rfl⟩
-- from the place 70 on
set_option maxRecDepth 100000 in
set_option maxHeartbeats 4000000 in
theorem z_Fo_hasCounts {G : q_G} {l : Launch} {d o row m n sz hs hl xs xl is il ms' ml : Nat} {gl wd lp zp : Int32} {g : Nat → Int32} {F : Nat → Nat} {h : q_H} {Q : q_P} (hO : h o = some (e_Fo o (nI (U16 F hs hl 18)) gl wd lp)) (hB : q_By h (o + 1) row m g sz F) (hH : q_Ta h (o + 7) (o + 1) hs hl) (hI : q_Ta h (o + 8) (o + 1) is il) (hM : q_Ta h (o + 9) (o + 1) ms' ml) (hX : q_Ta h (o + 11) (o + 1) xs xl)
    (b1 : hs + hl ≤ sz) (b2 : is + il ≤ sz) (b3 : ms' + ml ≤ sz) (b4 : xs + xl ≤ sz) (hz : q_fit .boolean (.int zp)) (c0 : 54 ≤ hl ∧ 6 ≤ xl ∧ 36 ≤ il)
    (q1 : CNT_ok F hs hl xs xl is il ml → Q (some (.int 1)) (q_set h o (e_Fo o (nI (U16 F hs hl 18)) (nI (U16 F xs xl 4)) (nI (U16 F is il 34)) zp)) n)
    (q0 : ¬ CNT_ok F hs hl xs xl is il ml → Q (some (.int 0)) (q_set h o (e_Fo o (nI (U16 F hs hl 18)) (nI (U16 F xs xl 4)) (nI (U16 F is il 34)) zp)) n) : q_Z G l M_Fo_hasCounts (d + 2) 0 0 Q 70 [some (.ref o)] [.int zp, .ref o] h n 0 0 := by
  have hF := hB.2.2.2.2.2.2
  have hs' : sz ≤ 16384 := Nat.le_trans hB.2.2.1 hB.2.2.2.1
  have hO' := hO
  unfold e_Fo at hO'
  have u18 := U16_lt hF hs hl 18
  have u50 := U16_lt hF hs hl 50
  have u4 := U16_lt hF xs xl 4
  have u34 := U16_lt hF is il 34
  have hro := hB.ne hO'
  have mvT : ∀ {h' : q_H} {i st ln : Nat}, q_1 h h' o → 0 < i → q_Ta h (o + i) (o + 1) st ln → q_Ta h' (o + i) (o + 1) st ln := fun f hi t => (f _ (by omega)).trans t
  have mvB : ∀ {h' : q_H}, q_1 h h' o → q_By h' (o + 1) row m g sz F := fun f => hB.mv (f _ (by omega)) (f _ hro)
  have hH' : h (o + 7) = some (.inr (6, [.ref (o + 1), .int (nI hs), .int (nI hl)])) := hH
  have hX' : h (o + 11) = some (.inr (6, [.ref (o + 1), .int (nI xs), .int (nI xl)])) := hX
  have hI' : h (o + 8) = some (.inr (6, [.ref (o + 1), .int (nI is), .int (nI il)])) := hI
  have hM' : h (o + 9) = some (.inr (6, [.ref (o + 1), .int (nI ms'), .int (nI ml)])) := hM
  have o7 : o + 7 ≠ o := by omega
  have o8 : o + 8 ≠ o := by omega
  have o9 : o + 9 ≠ o := by omega
  have o11 : o + 11 ≠ o := by omega
  refine q_at o_Fo_hasCounts [] 40 l_Fo_hasCounts_70 ?_
  simp -implicitDefEqProofs only [s_go, s_nil, s_cons, q_ins, s_op, s_i, s_j, s_a, s_v, s_li, s_lj, s_la, s_liO, s_ljO, s_laO, q_get, q_p1, q_p2, s_n2i, s_n2r, s_n2l, s_n2n, q_pad, q_ar, s_ob, s_obO, q_nth, s_ri, s_riO, s_rb, s_rbO, s_rzO, s_rl, s_rlO, s_rq, s_rqO, s_ry, s_ryO, s_dn, s_tl, s_tn, s_ap, s_an, s_ci, s_cr, s_ni, s_n0, s_n1, q_ags, q_cat, List.contains_nil, List.contains_cons, Nat.reduceBEq, Bool.or_false, Bool.false_or, Bool.true_or, Bool.false_eq_true, ↓reduceIte, Nat.le_refl, Nat.zero_le, true_and, and_true, Nat.reduceLeDiff, Nat.reduceAdd, Nat.add_zero, Nat.zero_add, List.length_cons, List.length_nil, List.set_cons_zero, List.set_cons_succ, Nat.reduceLT, s_fi, s_fl, s_fo, s_fa, s_f0, s_f1, s_set, s_ss, lg_cmp_ge, lg_cmp_le, lg_cmp_gt, lg_cmp_lt, lg_cmp_eq, s_brT, s_brF, s_10, w_Fo_hasCounts, r_Fo_hasCounts, l_Fo_hasCounts_0, l_Fo_hasCounts_36, l_Fo_hasCounts_38, l_Fo_hasCounts_69, l_Fo_hasCounts_70, l_Fo_hasCounts_199, l_Fo_hasCounts_200, f_3_36, f_3_120, kb_54, f_3_48, kb_6, f_3_39, kb_36, kc_0, kb_18, ml_3_90, w_Ta_u16, f_3_136, ty_3_11, kb_50, kc_1, f_3_139, ty_3_14, kc_4, f_3_143, ty_3_12, kb_34, f_3_146, ty_3_13, kb_16, ks_16384, ks_256, f_3_42, kc_2, hO', s_ne _ _ o7, s_ne _ _ o8, s_ne _ _ o9, s_ne _ _ o11, hX', hI', hM', hH', eq_true hz]
  refine q_c0 (Nat.le_refl _) (Nat.le_refl _) ?_
  refine c_Ta_u16 (j := 4) (mvT (fun b hb => s_ne _ _ hb) (by omega) hX) (mvB (fun b hb => s_ne _ _ hb)) b4 (by omega) ?_
  simp -implicitDefEqProofs only [s_go, s_nil, s_cons, q_ins, s_op, s_i, s_j, s_a, s_v, s_li, s_lj, s_la, s_liO, s_ljO, s_laO, q_get, q_p1, q_p2, s_n2i, s_n2r, s_n2l, s_n2n, q_pad, q_ar, s_ob, s_obO, q_nth, s_ri, s_riO, s_rb, s_rbO, s_rzO, s_rl, s_rlO, s_rq, s_rqO, s_ry, s_ryO, s_dn, s_tl, s_tn, s_ap, s_an, s_ci, s_cr, s_ni, s_n0, s_n1, q_ags, q_cat, List.contains_nil, List.contains_cons, Nat.reduceBEq, Bool.or_false, Bool.false_or, Bool.true_or, Bool.false_eq_true, ↓reduceIte, Nat.le_refl, Nat.zero_le, true_and, and_true, Nat.reduceLeDiff, Nat.reduceAdd, Nat.add_zero, Nat.zero_add, List.length_cons, List.length_nil, List.set_cons_zero, List.set_cons_succ, Nat.reduceLT, s_fi, s_fl, s_fo, s_fa, s_f0, s_f1, s_set, s_ss, lg_cmp_ge, lg_cmp_le, lg_cmp_gt, lg_cmp_lt, lg_cmp_eq, s_brT, s_brF, s_10, w_Fo_hasCounts, r_Fo_hasCounts, l_Fo_hasCounts_0, l_Fo_hasCounts_36, l_Fo_hasCounts_38, l_Fo_hasCounts_69, l_Fo_hasCounts_70, l_Fo_hasCounts_199, l_Fo_hasCounts_200, f_3_36, f_3_120, kb_54, f_3_48, kb_6, f_3_39, kb_36, kc_0, kb_18, ml_3_90, w_Ta_u16, f_3_136, ty_3_11, kb_50, kc_1, f_3_139, ty_3_14, kc_4, f_3_143, ty_3_12, kb_34, f_3_146, ty_3_13, kb_16, ks_16384, ks_256, f_3_42, kc_2, hO', s_ne _ _ o7, s_ne _ _ o8, s_ne _ _ o9, s_ne _ _ o11, hX', hI', hM', hH']
  refine q_c0 (Nat.le_refl _) (Nat.le_refl _) ?_
  refine c_Ta_u16 (j := 34) (mvT (fun b hb => s_ne _ _ hb) (by omega) hI) (mvB (fun b hb => s_ne _ _ hb)) b2 (by omega) ?_
  simp -implicitDefEqProofs only [s_go, s_nil, s_cons, q_ins, s_op, s_i, s_j, s_a, s_v, s_li, s_lj, s_la, s_liO, s_ljO, s_laO, q_get, q_p1, q_p2, s_n2i, s_n2r, s_n2l, s_n2n, q_pad, q_ar, s_ob, s_obO, q_nth, s_ri, s_riO, s_rb, s_rbO, s_rzO, s_rl, s_rlO, s_rq, s_rqO, s_ry, s_ryO, s_dn, s_tl, s_tn, s_ap, s_an, s_ci, s_cr, s_ni, s_n0, s_n1, q_ags, q_cat, List.contains_nil, List.contains_cons, Nat.reduceBEq, Bool.or_false, Bool.false_or, Bool.true_or, Bool.false_eq_true, ↓reduceIte, Nat.le_refl, Nat.zero_le, true_and, and_true, Nat.reduceLeDiff, Nat.reduceAdd, Nat.add_zero, Nat.zero_add, List.length_cons, List.length_nil, List.set_cons_zero, List.set_cons_succ, Nat.reduceLT, s_fi, s_fl, s_fo, s_fa, s_f0, s_f1, s_set, s_ss, lg_cmp_ge, lg_cmp_le, lg_cmp_gt, lg_cmp_lt, lg_cmp_eq, s_brT, s_brF, s_10, w_Fo_hasCounts, r_Fo_hasCounts, l_Fo_hasCounts_0, l_Fo_hasCounts_36, l_Fo_hasCounts_38, l_Fo_hasCounts_69, l_Fo_hasCounts_70, l_Fo_hasCounts_199, l_Fo_hasCounts_200, f_3_36, f_3_120, kb_54, f_3_48, kb_6, f_3_39, kb_36, kc_0, kb_18, ml_3_90, w_Ta_u16, f_3_136, ty_3_11, kb_50, kc_1, f_3_139, ty_3_14, kc_4, f_3_143, ty_3_12, kb_34, f_3_146, ty_3_13, kb_16, ks_16384, ks_256, f_3_42, kc_2, hO', s_ne _ _ o7, s_ne _ _ o8, s_ne _ _ o9, s_ne _ _ o11, hX', hI', hM', hH']
  have e1 : q_set h o (Sum.inr (3, [.ref (o + 1), .ref (o + 3), .ref (o + 4), .ref (o + 5), .ref (o + 6), .ref (o + 7), .ref (o + 8), .ref (o + 9), .ref (o + 10), .ref (o + 11), .ref (o + 12), .int (nI (U16 F hs hl 18)), .int (nI (U16 F xs xl 4)), .int (nI (U16 F is il 34)), .int zp])) = q_set h o (e_Fo o (nI (U16 F hs hl 18)) (nI (U16 F xs xl 4)) (nI (U16 F is il 34)) zp) := rfl
  rw [show (16 : Int32) = nI 16 from rfl, show (16384 : Int32) = nI 16384 from rfl, nI_ltI (by omega) (by omega), nI_ltI (by omega) (by omega)]
  refine ⟨fun c => q0 (fun z => absurd z.2.1 (by omega)), fun c => ⟨fun c1 => q0 (fun z => absurd z.2.2.1 (by omega)), fun c1 => ?_⟩⟩
  refine q_c0 (Nat.le_refl _) (Nat.le_refl _) ?_
  refine c_Ta_u16 (j := 50) (mvT (fun b hb => s_ne _ _ hb) (by omega) hH) (mvB (fun b hb => s_ne _ _ hb)) b1 (by omega) ?_
  simp -implicitDefEqProofs only [s_go, s_nil, s_cons, q_ins, s_op, s_i, s_j, s_a, s_v, s_li, s_lj, s_la, s_liO, s_ljO, s_laO, q_get, q_p1, q_p2, s_n2i, s_n2r, s_n2l, s_n2n, q_pad, q_ar, s_ob, s_obO, q_nth, s_ri, s_riO, s_rb, s_rbO, s_rzO, s_rl, s_rlO, s_rq, s_rqO, s_ry, s_ryO, s_dn, s_tl, s_tn, s_ap, s_an, s_ci, s_cr, s_ni, s_n0, s_n1, q_ags, q_cat, List.contains_nil, List.contains_cons, Nat.reduceBEq, Bool.or_false, Bool.false_or, Bool.true_or, Bool.false_eq_true, ↓reduceIte, Nat.le_refl, Nat.zero_le, true_and, and_true, Nat.reduceLeDiff, Nat.reduceAdd, Nat.add_zero, Nat.zero_add, List.length_cons, List.length_nil, List.set_cons_zero, List.set_cons_succ, Nat.reduceLT, s_fi, s_fl, s_fo, s_fa, s_f0, s_f1, s_set, s_ss, lg_cmp_ge, lg_cmp_le, lg_cmp_gt, lg_cmp_lt, lg_cmp_eq, s_brT, s_brF, s_10, w_Fo_hasCounts, r_Fo_hasCounts, l_Fo_hasCounts_0, l_Fo_hasCounts_36, l_Fo_hasCounts_38, l_Fo_hasCounts_69, l_Fo_hasCounts_70, l_Fo_hasCounts_199, l_Fo_hasCounts_200, f_3_36, f_3_120, kb_54, f_3_48, kb_6, f_3_39, kb_36, kc_0, kb_18, ml_3_90, w_Ta_u16, f_3_136, ty_3_11, kb_50, kc_1, f_3_139, ty_3_14, kc_4, f_3_143, ty_3_12, kb_34, f_3_146, ty_3_13, kb_16, ks_16384, ks_256, f_3_42, kc_2, hO', s_ne _ _ o7, s_ne _ _ o8, s_ne _ _ o9, s_ne _ _ o11, hX', hI', hM', hH']
  rw [show (1 : Int32) = nI 1 from rfl, show (256 : Int32) = nI 256 from rfl, nI_ltI (by omega) (by omega), nI_ltI (by omega) (by omega), nI_ltI (by omega) (by omega), nI_ltI (by omega) (by omega), nI_ltI (by omega) (by omega)]
  refine ⟨fun c2 => q0 (fun z => absurd z.2.2.2.1 (by omega)), fun c2 => ⟨fun c3 => q0 (fun z => absurd z.2.2.2.2.1 (by omega)), fun c3 => ⟨fun c4 => q0 (fun z => absurd z.2.2.2.2.2.1 (by omega)), fun c4 => ⟨fun c5 => q0 (fun z => absurd z.2.2.2.2.2.2.1 (by omega)), fun c5 => ⟨fun c6 => q0 (fun z => absurd z.2.2.2.2.2.2.2.1 (by omega)), fun c6 => ?_⟩⟩⟩⟩⟩
  rw [pk_sub (by omega), show (4 : Int32) = nI 4 from rfl, show (2 : Int32) = nI 2 from rfl, pk_mul, pk_mul, nI_add, nI_ltI (by omega) (by omega)]
  exact ⟨fun c7 => q0 (fun z => absurd z.2.2.2.2.2.2.2.2 (by omega)), fun c7 => q1 ⟨c0, by omega, by omega, by omega, by omega, by omega, by omega, by omega, by omega⟩⟩
set_option maxRecDepth 100000 in
set_option maxHeartbeats 4000000 in
theorem c_Fo_hasCounts {G : q_G} {l : Launch} {d o row m n sz hs hl xs xl is il ms' ml : Nat} {em gl wd lp : Int32} {g : Nat → Int32} {F : Nat → Nat} {h : q_H} {Q : q_P} (hO : h o = some (e_Fo o em gl wd lp)) (hB : q_By h (o + 1) row m g sz F) (hH : q_Ta h (o + 7) (o + 1) hs hl) (hI : q_Ta h (o + 8) (o + 1) is il) (hM : q_Ta h (o + 9) (o + 1) ms' ml) (hX : q_Ta h (o + 11) (o + 1) xs xl)
    (b1 : hs + hl ≤ sz) (b2 : is + il ≤ sz) (b3 : ms' + ml ≤ sz) (b4 : xs + xl ≤ sz) (hlp : lp = 0 ∨ lp = 1)
    (q1 : CNT_ok F hs hl xs xl is il ml → Q (some (.int 1)) (q_set h o (e_Fo o (nI (U16 F hs hl 18)) (nI (U16 F xs xl 4)) (nI (U16 F is il 34)) (q_z (U16 F hs hl 50 = 1)))) n)
    (q0 : ¬ CNT_ok F hs hl xs xl is il ml → ∀ em gl wd lp, (lp = 0 ∨ lp = 1) → Q (some (.int 0)) (q_set h o (e_Fo o em gl wd lp)) n) : q_Call G l M_Fo_hasCounts (d + 2) 0 0 [.ref o] h n Q := by
  have hF := hB.2.2.2.2.2.2
  have hs' : sz ≤ 16384 := Nat.le_trans hB.2.2.1 hB.2.2.2.1
  have hO' := hO
  unfold e_Fo at hO'
  have hH' : h (o + 7) = some (.inr (6, [.ref (o + 1), .int (nI hs), .int (nI hl)])) := hH
  have hI' : h (o + 8) = some (.inr (6, [.ref (o + 1), .int (nI is), .int (nI il)])) := hI
  have hM' : h (o + 9) = some (.inr (6, [.ref (o + 1), .int (nI ms'), .int (nI ml)])) := hM
  have hX' : h (o + 11) = some (.inr (6, [.ref (o + 1), .int (nI xs), .int (nI xl)])) := hX
  have u18 := U16_lt hF hs hl 18
  have u50 := U16_lt hF hs hl 50
  have u4 := U16_lt hF xs xl 4
  have u34 := U16_lt hF is il 34
  have q0' : ¬ CNT_ok F hs hl xs xl is il ml → Q (some (.int 0)) h n := fun z => by
    have := q0 z em gl wd lp hlp
    rw [s_id h hO] at this
    exact this
  refine q_in u_Fo_hasCounts (by rw [L_Fo_hasCounts]; exact Nat.le_of_ble_eq_true rfl) ?_
  rw [L_Fo_hasCounts]
  refine q_at o_Fo_hasCounts [70] 40 l_Fo_hasCounts_0 ?_
  simp -implicitDefEqProofs only [s_go, s_nil, s_cons, q_ins, s_op, s_i, s_j, s_a, s_v, s_li, s_lj, s_la, s_liO, s_ljO, s_laO, q_get, q_p1, q_p2, s_n2i, s_n2r, s_n2l, s_n2n, q_pad, q_ar, s_ob, s_obO, q_nth, s_ri, s_riO, s_rb, s_rbO, s_rzO, s_rl, s_rlO, s_rq, s_rqO, s_ry, s_ryO, s_dn, s_tl, s_tn, s_ap, s_an, s_ci, s_cr, s_ni, s_n0, s_n1, q_ags, q_cat, List.contains_nil, List.contains_cons, Nat.reduceBEq, Bool.or_false, Bool.false_or, Bool.true_or, Bool.false_eq_true, ↓reduceIte, Nat.le_refl, Nat.zero_le, true_and, and_true, Nat.reduceLeDiff, Nat.reduceAdd, Nat.add_zero, Nat.zero_add, List.length_cons, List.length_nil, List.set_cons_zero, List.set_cons_succ, Nat.reduceLT, s_fi, s_fl, s_fo, s_fa, s_f0, s_f1, s_set, s_ss, lg_cmp_ge, lg_cmp_le, lg_cmp_gt, lg_cmp_lt, lg_cmp_eq, s_brT, s_brF, s_10, w_Fo_hasCounts, r_Fo_hasCounts, l_Fo_hasCounts_0, l_Fo_hasCounts_36, l_Fo_hasCounts_38, l_Fo_hasCounts_69, l_Fo_hasCounts_70, l_Fo_hasCounts_199, l_Fo_hasCounts_200, f_3_36, f_3_120, kb_54, f_3_48, kb_6, f_3_39, kb_36, kc_0, kb_18, ml_3_90, w_Ta_u16, f_3_136, ty_3_11, kb_50, kc_1, f_3_139, ty_3_14, kc_4, f_3_143, ty_3_12, kb_34, f_3_146, ty_3_13, kb_16, ks_16384, ks_256, f_3_42, kc_2, hO', hH', hI', hM', hX']
  rw [show (54 : Int32) = nI 54 from rfl, show (6 : Int32) = nI 6 from rfl, show (36 : Int32) = nI 36 from rfl, nI_ltI (by omega) (by omega), nI_ltI (by omega) (by omega), nI_leI (by omega) (by omega)]
  refine ⟨fun c => q0' (fun z => absurd z.1.1 (by omega)), fun c => ⟨fun c1 => q0' (fun z => absurd z.1.2.1 (by omega)), fun c1 => ⟨fun c2 => ?_, fun c2 => q0' (fun z => absurd z.1.2.2 (by omega))⟩⟩⟩
  refine q_c0 (Nat.le_refl _) (Nat.le_refl _) ?_
  refine c_Ta_u16 (j := 18) hH hB b1 (by omega) ?_
  have hro := hB.ne hO'
  have mvT : ∀ {h' : q_H} {i st ln : Nat}, q_1 h h' o → 0 < i → q_Ta h (o + i) (o + 1) st ln → q_Ta h' (o + i) (o + 1) st ln := fun f hi t => (f _ (by omega)).trans t
  have mvB : ∀ {h' : q_H}, q_1 h h' o → q_By h' (o + 1) row m g sz F := fun f => hB.mv (f _ (by omega)) (f _ hro)
  have o7 : o + 7 ≠ o := by omega
  simp -implicitDefEqProofs only [s_go, s_nil, s_cons, q_ins, s_op, s_i, s_j, s_a, s_v, s_li, s_lj, s_la, s_liO, s_ljO, s_laO, q_get, q_p1, q_p2, s_n2i, s_n2r, s_n2l, s_n2n, q_pad, q_ar, s_ob, s_obO, q_nth, s_ri, s_riO, s_rb, s_rbO, s_rzO, s_rl, s_rlO, s_rq, s_rqO, s_ry, s_ryO, s_dn, s_tl, s_tn, s_ap, s_an, s_ci, s_cr, s_ni, s_n0, s_n1, q_ags, q_cat, List.contains_nil, List.contains_cons, Nat.reduceBEq, Bool.or_false, Bool.false_or, Bool.true_or, Bool.false_eq_true, ↓reduceIte, Nat.le_refl, Nat.zero_le, true_and, and_true, Nat.reduceLeDiff, Nat.reduceAdd, Nat.add_zero, Nat.zero_add, List.length_cons, List.length_nil, List.set_cons_zero, List.set_cons_succ, Nat.reduceLT, s_fi, s_fl, s_fo, s_fa, s_f0, s_f1, s_set, s_ss, lg_cmp_ge, lg_cmp_le, lg_cmp_gt, lg_cmp_lt, lg_cmp_eq, s_brT, s_brF, s_10, w_Fo_hasCounts, r_Fo_hasCounts, l_Fo_hasCounts_0, l_Fo_hasCounts_36, l_Fo_hasCounts_38, l_Fo_hasCounts_69, l_Fo_hasCounts_70, l_Fo_hasCounts_199, l_Fo_hasCounts_200, f_3_36, f_3_120, kb_54, f_3_48, kb_6, f_3_39, kb_36, kc_0, kb_18, ml_3_90, w_Ta_u16, f_3_136, ty_3_11, kb_50, kc_1, f_3_139, ty_3_14, kc_4, f_3_143, ty_3_12, kb_34, f_3_146, ty_3_13, kb_16, ks_16384, ks_256, f_3_42, kc_2, hO', s_ne _ _ o7, hH']
  refine q_c0 (Nat.le_refl _) (Nat.le_refl _) ?_
  refine c_Ta_u16 (j := 50) (mvT (fun b hb => s_ne _ _ hb) (by omega) hH) (mvB (fun b hb => s_ne _ _ hb)) b1 (by omega) ?_
  simp -implicitDefEqProofs only [s_go, s_nil, s_cons, q_ins, s_op, s_i, s_j, s_a, s_v, s_li, s_lj, s_la, s_liO, s_ljO, s_laO, q_get, q_p1, q_p2, s_n2i, s_n2r, s_n2l, s_n2n, q_pad, q_ar, s_ob, s_obO, q_nth, s_ri, s_riO, s_rb, s_rbO, s_rzO, s_rl, s_rlO, s_rq, s_rqO, s_ry, s_ryO, s_dn, s_tl, s_tn, s_ap, s_an, s_ci, s_cr, s_ni, s_n0, s_n1, q_ags, q_cat, List.contains_nil, List.contains_cons, Nat.reduceBEq, Bool.or_false, Bool.false_or, Bool.true_or, Bool.false_eq_true, ↓reduceIte, Nat.le_refl, Nat.zero_le, true_and, and_true, Nat.reduceLeDiff, Nat.reduceAdd, Nat.add_zero, Nat.zero_add, List.length_cons, List.length_nil, List.set_cons_zero, List.set_cons_succ, Nat.reduceLT, s_fi, s_fl, s_fo, s_fa, s_f0, s_f1, s_set, s_ss, lg_cmp_ge, lg_cmp_le, lg_cmp_gt, lg_cmp_lt, lg_cmp_eq, s_brT, s_brF, s_10, w_Fo_hasCounts, r_Fo_hasCounts, l_Fo_hasCounts_0, l_Fo_hasCounts_36, l_Fo_hasCounts_38, l_Fo_hasCounts_69, l_Fo_hasCounts_70, l_Fo_hasCounts_199, l_Fo_hasCounts_200, f_3_36, f_3_120, kb_54, f_3_48, kb_6, f_3_39, kb_36, kc_0, kb_18, ml_3_90, w_Ta_u16, f_3_136, ty_3_11, kb_50, kc_1, f_3_139, ty_3_14, kc_4, f_3_143, ty_3_12, kb_34, f_3_146, ty_3_13, kb_16, ks_16384, ks_256, f_3_42, kc_2, hO', s_ne _ _ o7, hH']
  generalize hh1 : q_set h o _ = h1
  have f1 : q_1 h h1 o := fun b hb => by rw [← hh1]; exact s_ne _ _ hb
  have O1 : h1 o = some (e_Fo o (nI (U16 F hs hl 18)) gl wd lp) := by rw [← hh1]; exact s_set _ _ _
  have ss : ∀ x, q_set h1 o x = q_set h o x := fun x => by rw [← hh1, s_ss]
  rw [show (1 : Int32) = nI 1 from rfl, nI_eq (by omega) (by omega)]
  refine ⟨fun c3 => ?_, fun c3 => ?_⟩
  · refine z_Fo_hasCounts O1 (mvB f1) (mvT f1 (by omega) hH) (mvT f1 (by omega) hI) (mvT f1 (by omega) hM) (mvT f1 (by omega) hX) b1 b2 b3 b4 ⟨rfl, rfl⟩ ⟨by omega, by omega, by omega⟩ (fun z => ?_) (fun z => ?_)
    · rw [ss]; have := q1 z; rw [q_z_t c3] at this; exact this
    · rw [ss]; exact q0 z _ _ _ _ (Or.inr rfl)
  · refine z_Fo_hasCounts O1 (mvB f1) (mvT f1 (by omega) hH) (mvT f1 (by omega) hI) (mvT f1 (by omega) hM) (mvT f1 (by omega) hX) b1 b2 b3 b4 ⟨rfl, rfl⟩ ⟨by omega, by omega, by omega⟩ (fun z => ?_) (fun z => ?_)
    · rw [ss]; have := q1 z; rw [q_z_f c3] at this; exact this
    · rw [ss]; exact q0 z _ _ _ _ (Or.inl rfl)
/-- glyph g's place in glyf: loca (ls, ll), of U16s to be doubled or of U32s -/
def DP (F : Nat → Nat) (lg : Prop) [Decidable lg] (ls ll g : Nat) : Nat := if lg then U32 F ls ll (4 * g) else 2 * U16 F ls ll (2 * g)
theorem DP_lt {F : Nat → Nat} (hF : ∀ j, F j < 256) (lg : Prop) [Decidable lg] (ls ll g : Nat) : DP F lg ls ll g < 4294967296 := by
  unfold DP
  split
  · exact U32_lt hF _ _ _
  · have := U16_lt hF ls ll (2 * g); omega
set_option maxRecDepth 100000 in
set_option maxHeartbeats 4000000 in
theorem c_Fo_dataPlace {G : q_G} {l : Launch} {d o row m n sz ls ll k : Nat} {em gl wd : Int32} {lg : Prop} [Decidable lg] {g : Nat → Int32} {F : Nat → Nat} {h : q_H} {Q : q_P} (hO : h o = some (e_Fo o em gl wd (q_z lg))) (hB : q_By h (o + 1) row m g sz F) (hL : q_Ta h (o + 10) (o + 1) ls ll) (b1 : ls + ll ≤ sz) (hk : k < 100000) (hq : Q (some (.long (lN (DP F lg ls ll k)))) h n) : q_Call G l M_Fo_dataPlace (d + 2) 0 0 [.ref o, .int (nI k)] h n Q := by
  have hF := hB.2.2.2.2.2.2
  have hO' := hO
  unfold e_Fo at hO'
  have hL' : h (o + 10) = some (.inr (6, [.ref (o + 1), .int (nI ls), .int (nI ll)])) := hL
  unfold DP at hq
  refine q_in u_Fo_dataPlace (by rw [L_Fo_dataPlace]; exact Nat.le_of_ble_eq_true rfl) ?_
  rw [L_Fo_dataPlace]
  refine q_at o_Fo_dataPlace [] 20 l_Fo_dataPlace_0 ?_
  by_cases hl : lg
  · rw [q_z_t hl] at hO'
    rw [if_pos hl] at hq
    simp -implicitDefEqProofs only [s_go, s_nil, s_cons, q_ins, s_op, s_i, s_j, s_a, s_v, s_li, s_lj, s_la, s_liO, s_ljO, s_laO, q_get, q_p1, q_p2, s_n2i, s_n2r, s_n2l, s_n2n, q_pad, q_ar, s_ob, s_obO, q_nth, s_ri, s_riO, s_rb, s_rbO, s_rzO, s_rl, s_rlO, s_rq, s_rqO, s_ry, s_ryO, s_dn, s_tl, s_tn, s_ap, s_an, s_ci, s_cr, s_ni, s_n0, s_n1, q_ags, q_cat, List.contains_nil, List.contains_cons, Nat.reduceBEq, Bool.or_false, Bool.false_or, Bool.true_or, Bool.false_eq_true, ↓reduceIte, Nat.le_refl, Nat.zero_le, true_and, and_true, Nat.reduceLeDiff, Nat.reduceAdd, Nat.add_zero, Nat.zero_add, List.length_cons, List.length_nil, List.set_cons_zero, List.set_cons_succ, Nat.reduceLT, s_fi, s_fl, s_fo, s_fa, s_f0, s_f1, s_set, s_ss, lg_cmp_ge, lg_cmp_le, lg_cmp_gt, lg_cmp_lt, lg_cmp_eq, s_brT, s_brF, s_10, w_Fo_dataPlace, r_Fo_dataPlace, l_Fo_dataPlace_0, l_Fo_dataPlace_20, l_Fo_dataPlace_33, f_3_139, f_3_45, kc_4, ml_3_98, w_Ta_u32, kc_2, ml_3_90, w_Ta_u16, hO', hL']
    rw [show (4 : Int32) * nI k = nI (4 * k) from pk_mul 4 k]
    refine q_c0 (Nat.le_refl _) (Nat.le_refl _) ?_
    refine c_Ta_u32 hL hB b1 (by omega) ?_
    simp -implicitDefEqProofs only [s_go, s_nil, s_cons, q_ins, s_op, s_i, s_j, s_a, s_v, s_li, s_lj, s_la, s_liO, s_ljO, s_laO, q_get, q_p1, q_p2, s_n2i, s_n2r, s_n2l, s_n2n, q_pad, q_ar, s_ob, s_obO, q_nth, s_ri, s_riO, s_rb, s_rbO, s_rzO, s_rl, s_rlO, s_rq, s_rqO, s_ry, s_ryO, s_dn, s_tl, s_tn, s_ap, s_an, s_ci, s_cr, s_ni, s_n0, s_n1, q_ags, q_cat, List.contains_nil, List.contains_cons, Nat.reduceBEq, Bool.or_false, Bool.false_or, Bool.true_or, Bool.false_eq_true, ↓reduceIte, Nat.le_refl, Nat.zero_le, true_and, and_true, Nat.reduceLeDiff, Nat.reduceAdd, Nat.add_zero, Nat.zero_add, List.length_cons, List.length_nil, List.set_cons_zero, List.set_cons_succ, Nat.reduceLT, s_fi, s_fl, s_fo, s_fa, s_f0, s_f1, s_set, s_ss, lg_cmp_ge, lg_cmp_le, lg_cmp_gt, lg_cmp_lt, lg_cmp_eq, s_brT, s_brF, s_10, w_Fo_dataPlace, r_Fo_dataPlace, l_Fo_dataPlace_0, l_Fo_dataPlace_20, l_Fo_dataPlace_33, f_3_139, f_3_45, kc_4, ml_3_98, w_Ta_u32, kc_2, ml_3_90, w_Ta_u16]
    exact hq
  · rw [q_z_f hl] at hO'
    rw [if_neg hl] at hq
    simp -implicitDefEqProofs only [s_go, s_nil, s_cons, q_ins, s_op, s_i, s_j, s_a, s_v, s_li, s_lj, s_la, s_liO, s_ljO, s_laO, q_get, q_p1, q_p2, s_n2i, s_n2r, s_n2l, s_n2n, q_pad, q_ar, s_ob, s_obO, q_nth, s_ri, s_riO, s_rb, s_rbO, s_rzO, s_rl, s_rlO, s_rq, s_rqO, s_ry, s_ryO, s_dn, s_tl, s_tn, s_ap, s_an, s_ci, s_cr, s_ni, s_n0, s_n1, q_ags, q_cat, List.contains_nil, List.contains_cons, Nat.reduceBEq, Bool.or_false, Bool.false_or, Bool.true_or, Bool.false_eq_true, ↓reduceIte, Nat.le_refl, Nat.zero_le, true_and, and_true, Nat.reduceLeDiff, Nat.reduceAdd, Nat.add_zero, Nat.zero_add, List.length_cons, List.length_nil, List.set_cons_zero, List.set_cons_succ, Nat.reduceLT, s_fi, s_fl, s_fo, s_fa, s_f0, s_f1, s_set, s_ss, lg_cmp_ge, lg_cmp_le, lg_cmp_gt, lg_cmp_lt, lg_cmp_eq, s_brT, s_brF, s_10, w_Fo_dataPlace, r_Fo_dataPlace, l_Fo_dataPlace_0, l_Fo_dataPlace_20, l_Fo_dataPlace_33, f_3_139, f_3_45, kc_4, ml_3_98, w_Ta_u32, kc_2, ml_3_90, w_Ta_u16, hO', hL']
    rw [show (2 : Int32) * nI k = nI (2 * k) from pk_mul 2 k]
    refine q_c0 (Nat.le_refl _) (Nat.le_refl _) ?_
    refine c_Ta_u16 hL hB b1 (by omega) ?_
    have := U16_lt hF ls ll (2 * k)
    simp -implicitDefEqProofs only [s_go, s_nil, s_cons, q_ins, s_op, s_i, s_j, s_a, s_v, s_li, s_lj, s_la, s_liO, s_ljO, s_laO, q_get, q_p1, q_p2, s_n2i, s_n2r, s_n2l, s_n2n, q_pad, q_ar, s_ob, s_obO, q_nth, s_ri, s_riO, s_rb, s_rbO, s_rzO, s_rl, s_rlO, s_rq, s_rqO, s_ry, s_ryO, s_dn, s_tl, s_tn, s_ap, s_an, s_ci, s_cr, s_ni, s_n0, s_n1, q_ags, q_cat, List.contains_nil, List.contains_cons, Nat.reduceBEq, Bool.or_false, Bool.false_or, Bool.true_or, Bool.false_eq_true, ↓reduceIte, Nat.le_refl, Nat.zero_le, true_and, and_true, Nat.reduceLeDiff, Nat.reduceAdd, Nat.add_zero, Nat.zero_add, List.length_cons, List.length_nil, List.set_cons_zero, List.set_cons_succ, Nat.reduceLT, s_fi, s_fl, s_fo, s_fa, s_f0, s_f1, s_set, s_ss, lg_cmp_ge, lg_cmp_le, lg_cmp_gt, lg_cmp_lt, lg_cmp_eq, s_brT, s_brF, s_10, w_Fo_dataPlace, r_Fo_dataPlace, l_Fo_dataPlace_0, l_Fo_dataPlace_20, l_Fo_dataPlace_33, f_3_139, f_3_45, kc_4, ml_3_98, w_Ta_u32, kc_2, ml_3_90, w_Ta_u16]
    rw [show (2 : Int32) * nI (U16 F ls ll (2 * k)) = nI (2 * U16 F ls ll (2 * k)) from pk_mul 2 _, nI_l (by omega)]
    exact hq
/-- loca: there are N + 1 numbers, none below the one before, the last not above the length of glyf -/
def PL_ok (F : Nat → Nat) (lg : Prop) [Decidable lg] (ls ll gl2 N : Nat) : Prop := (N + 1) * (if lg then 4 else 2) ≤ ll ∧ (∀ g, g < N → DP F lg ls ll g ≤ DP F lg ls ll (g + 1)) ∧ DP F lg ls ll N ≤ gl2
def q_pb (F : Nat → Nat) (lg : Prop) [Decidable lg] (ls ll g : Nat) : Nat := if g = 0 then 0 else DP F lg ls ll (g - 1)
set_option maxRecDepth 100000 in
set_option maxHeartbeats 4000000 in
theorem z_Fo_hasPlaces {G : q_G} {l : Launch} {d o row m n sz ls ll gs gn N : Nat} {em wd : Int32} {lg : Prop} [Decidable lg] {g : Nat → Int32} {F : Nat → Nat} {h : q_H} {Q : q_P} (hO : h o = some (e_Fo o em (nI N) wd (q_z lg))) (hB : q_By h (o + 1) row m g sz F) (hL : q_Ta h (o + 10) (o + 1) ls ll) (hG : q_Ta h (o + 6) (o + 1) gs gn) (b1 : ls + ll ≤ sz) (b2 : gs + gn ≤ sz) (hN : N ≤ 256) (hh : (N + 1) * (if lg then 4 else 2) ≤ ll)
    (q1 : PL_ok F lg ls ll gn N → Q (some (.int 1)) h n) (q0 : ¬ PL_ok F lg ls ll gn N → Q (some (.int 0)) h n) :
    ∀ (r k : Nat), k + r = N + 1 → (∀ j, j + 1 < k → DP F lg ls ll j ≤ DP F lg ls ll (j + 1)) → q_Z G l M_Fo_hasPlaces (d + 3) 0 0 Q 37 [some (.ref o), some (.long (lN (q_pb F lg ls ll k))), none, some (.int (nI k)), none, none] [] h n 0 0 := by
  have hF := hB.2.2.2.2.2.2
  have hs : sz ≤ 16384 := Nat.le_trans hB.2.2.1 hB.2.2.2.1
  have hO' := hO
  unfold e_Fo at hO'
  have hG' : h (o + 6) = some (.inr (6, [.ref (o + 1), .int (nI gs), .int (nI gn)])) := hG
  intro r
  induction r with
  | zero =>
    intro k hk hall
    have hk : k = N + 1 := by omega
    subst hk
    have b3 := DP_lt hF lg ls ll N
    refine q_at o_Fo_hasPlaces [37] 20 l_Fo_hasPlaces_37 ?_
    simp -implicitDefEqProofs only [s_go, s_nil, s_cons, q_ins, s_op, s_i, s_j, s_a, s_v, s_li, s_lj, s_la, s_liO, s_ljO, s_laO, q_get, q_p1, q_p2, s_n2i, s_n2r, s_n2l, s_n2n, q_pad, q_ar, s_ob, s_obO, q_nth, s_ri, s_riO, s_rb, s_rbO, s_rzO, s_rl, s_rlO, s_rq, s_rqO, s_ry, s_ryO, s_dn, s_tl, s_tn, s_ap, s_an, s_ci, s_cr, s_ni, s_n0, s_n1, q_ags, q_cat, List.contains_nil, List.contains_cons, Nat.reduceBEq, Bool.or_false, Bool.false_or, Bool.true_or, Bool.false_eq_true, ↓reduceIte, Nat.le_refl, Nat.zero_le, true_and, and_true, Nat.reduceLeDiff, Nat.reduceAdd, Nat.add_zero, Nat.zero_add, List.length_cons, List.length_nil, List.set_cons_zero, List.set_cons_succ, Nat.reduceLT, s_fi, s_fl, s_fo, s_fa, s_f0, s_f1, s_set, s_ss, lg_cmp_ge, lg_cmp_le, lg_cmp_gt, lg_cmp_lt, lg_cmp_eq, s_brT, s_brF, s_10, w_Fo_hasPlaces, r_Fo_hasPlaces, l_Fo_hasPlaces_0, l_Fo_hasPlaces_22, l_Fo_hasPlaces_23, l_Fo_hasPlaces_33, l_Fo_hasPlaces_37, l_Fo_hasPlaces_61, l_Fo_hasPlaces_70, l_Fo_hasPlaces_87, l_Fo_hasPlaces_88, f_3_45, kj_0, f_3_143, kc_1, f_3_139, kc_4, kc_2, ml_3_106, w_Ta_holds, kc_0, ml_3_149, w_Fo_dataPlace, f_3_33, f_3_120, hO', hG']
    rw [nI_l (by omega), show q_pb F lg ls ll (N + 1) = DP F lg ls ll N from rfl, pk_lLT (by omega) (by omega)]
    refine ⟨fun _ => ⟨fun c => q0 (fun z => absurd z.2.2 (by omega)), fun c => q1 ⟨hh, fun j hj => hall j (by omega), by omega⟩⟩, fun c => absurd ((nI_ltI (by omega) (by omega)).mpr (Nat.lt_succ_self N)) c⟩
  | succ r ih =>
    intro k hk hall
    refine q_at o_Fo_hasPlaces [37] 20 l_Fo_hasPlaces_37 ?_
    simp -implicitDefEqProofs only [s_go, s_nil, s_cons, q_ins, s_op, s_i, s_j, s_a, s_v, s_li, s_lj, s_la, s_liO, s_ljO, s_laO, q_get, q_p1, q_p2, s_n2i, s_n2r, s_n2l, s_n2n, q_pad, q_ar, s_ob, s_obO, q_nth, s_ri, s_riO, s_rb, s_rbO, s_rzO, s_rl, s_rlO, s_rq, s_rqO, s_ry, s_ryO, s_dn, s_tl, s_tn, s_ap, s_an, s_ci, s_cr, s_ni, s_n0, s_n1, q_ags, q_cat, List.contains_nil, List.contains_cons, Nat.reduceBEq, Bool.or_false, Bool.false_or, Bool.true_or, Bool.false_eq_true, ↓reduceIte, Nat.le_refl, Nat.zero_le, true_and, and_true, Nat.reduceLeDiff, Nat.reduceAdd, Nat.add_zero, Nat.zero_add, List.length_cons, List.length_nil, List.set_cons_zero, List.set_cons_succ, Nat.reduceLT, s_fi, s_fl, s_fo, s_fa, s_f0, s_f1, s_set, s_ss, lg_cmp_ge, lg_cmp_le, lg_cmp_gt, lg_cmp_lt, lg_cmp_eq, s_brT, s_brF, s_10, w_Fo_hasPlaces, r_Fo_hasPlaces, l_Fo_hasPlaces_0, l_Fo_hasPlaces_22, l_Fo_hasPlaces_23, l_Fo_hasPlaces_33, l_Fo_hasPlaces_37, l_Fo_hasPlaces_61, l_Fo_hasPlaces_70, l_Fo_hasPlaces_87, l_Fo_hasPlaces_88, f_3_45, kj_0, f_3_143, kc_1, f_3_139, kc_4, kc_2, ml_3_106, w_Ta_holds, kc_0, ml_3_149, w_Fo_dataPlace, f_3_33, f_3_120, hO', hG']
    refine ⟨fun c => absurd ((nI_ltI (by omega) (by omega)).mp c) (by omega), fun _ => ?_⟩
    refine q_c0 (Nat.le_refl _) (Nat.le_refl _) ?_
    refine c_Fo_dataPlace hO hB hL b1 (by omega) ?_
    simp -implicitDefEqProofs only [s_go, s_nil, s_cons, q_ins, s_op, s_i, s_j, s_a, s_v, s_li, s_lj, s_la, s_liO, s_ljO, s_laO, q_get, q_p1, q_p2, s_n2i, s_n2r, s_n2l, s_n2n, q_pad, q_ar, s_ob, s_obO, q_nth, s_ri, s_riO, s_rb, s_rbO, s_rzO, s_rl, s_rlO, s_rq, s_rqO, s_ry, s_ryO, s_dn, s_tl, s_tn, s_ap, s_an, s_ci, s_cr, s_ni, s_n0, s_n1, q_ags, q_cat, List.contains_nil, List.contains_cons, Nat.reduceBEq, Bool.or_false, Bool.false_or, Bool.true_or, Bool.false_eq_true, ↓reduceIte, Nat.le_refl, Nat.zero_le, true_and, and_true, Nat.reduceLeDiff, Nat.reduceAdd, Nat.add_zero, Nat.zero_add, List.length_cons, List.length_nil, List.set_cons_zero, List.set_cons_succ, Nat.reduceLT, s_fi, s_fl, s_fo, s_fa, s_f0, s_f1, s_set, s_ss, lg_cmp_ge, lg_cmp_le, lg_cmp_gt, lg_cmp_lt, lg_cmp_eq, s_brT, s_brF, s_10, w_Fo_hasPlaces, r_Fo_hasPlaces, l_Fo_hasPlaces_0, l_Fo_hasPlaces_22, l_Fo_hasPlaces_23, l_Fo_hasPlaces_33, l_Fo_hasPlaces_37, l_Fo_hasPlaces_61, l_Fo_hasPlaces_70, l_Fo_hasPlaces_87, l_Fo_hasPlaces_88, f_3_45, kj_0, f_3_143, kc_1, f_3_139, kc_4, kc_2, ml_3_106, w_Ta_holds, kc_0, ml_3_149, w_Fo_dataPlace, f_3_33, f_3_120, hO', hG']
    have b3 := DP_lt hF lg ls ll k
    have b4 := DP_lt hF lg ls ll (k - 1)
    have b5 : q_pb F lg ls ll k < 4294967296 := by unfold q_pb; split <;> omega
    rw [pk_lLE (by omega) (by omega)]
    refine ⟨fun c => ?_, fun c => q0 (fun z => ?_)⟩
    · refine q_wk (ih (k + 1) (by omega) (fun j hj => ?_)) ⟨rfl, rfl, by rw [nI_1], trivial⟩
      rcases Nat.lt_or_ge (j + 1) k with z | z
      · exact hall j z
      · have hj' : j + 1 = k := by omega
        subst hj'
        exact c
    · apply c
      unfold q_pb
      by_cases h0 : k = 0
      · rw [if_pos h0]; omega
      · rw [if_neg h0]
        have := z.2.1 (k - 1) (by omega)
        rw [show k - 1 + 1 = k by omega] at this
        exact this
set_option maxRecDepth 100000 in
set_option maxHeartbeats 4000000 in
theorem c_Fo_hasPlaces {G : q_G} {l : Launch} {d o row m n sz ls ll gs gn N : Nat} {em wd : Int32} {lg : Prop} [Decidable lg] {g : Nat → Int32} {F : Nat → Nat} {h : q_H} {Q : q_P} (hO : h o = some (e_Fo o em (nI N) wd (q_z lg))) (hB : q_By h (o + 1) row m g sz F) (hL : q_Ta h (o + 10) (o + 1) ls ll) (hG : q_Ta h (o + 6) (o + 1) gs gn) (b1 : ls + ll ≤ sz) (b2 : gs + gn ≤ sz) (hN : N ≤ 256)
    (q1 : PL_ok F lg ls ll gn N → Q (some (.int 1)) h n) (q0 : ¬ PL_ok F lg ls ll gn N → Q (some (.int 0)) h n) : q_Call G l M_Fo_hasPlaces (d + 3) 0 0 [.ref o] h n Q := by
  have hs : sz ≤ 16384 := Nat.le_trans hB.2.2.1 hB.2.2.2.1
  have hO' := hO
  unfold e_Fo at hO'
  have hL' : h (o + 10) = some (.inr (6, [.ref (o + 1), .int (nI ls), .int (nI ll)])) := hL
  have fin : ∀ w : Nat, w = (if lg then 4 else 2) → q_Z G l M_Fo_hasPlaces (d + 3) 0 0 Q 23 [some (.ref o), none, none, none, none, none] [.int (nI w), .int (nI (N + 1)), .long 0, .ref (o + 10)] h n 0 0 := by
    intro w hw
    have hw4 : w ≤ 4 := by rw [hw]; split <;> omega
    have hmul : (N + 1) * w ≤ 257 * 4 := Nat.mul_le_mul (by omega) hw4
    refine q_at o_Fo_hasPlaces [37] 20 l_Fo_hasPlaces_23 ?_
    simp -implicitDefEqProofs only [s_go, s_nil, s_cons, q_ins, s_op, s_i, s_j, s_a, s_v, s_li, s_lj, s_la, s_liO, s_ljO, s_laO, q_get, q_p1, q_p2, s_n2i, s_n2r, s_n2l, s_n2n, q_pad, q_ar, s_ob, s_obO, q_nth, s_ri, s_riO, s_rb, s_rbO, s_rzO, s_rl, s_rlO, s_rq, s_rqO, s_ry, s_ryO, s_dn, s_tl, s_tn, s_ap, s_an, s_ci, s_cr, s_ni, s_n0, s_n1, q_ags, q_cat, List.contains_nil, List.contains_cons, Nat.reduceBEq, Bool.or_false, Bool.false_or, Bool.true_or, Bool.false_eq_true, ↓reduceIte, Nat.le_refl, Nat.zero_le, true_and, and_true, Nat.reduceLeDiff, Nat.reduceAdd, Nat.add_zero, Nat.zero_add, List.length_cons, List.length_nil, List.set_cons_zero, List.set_cons_succ, Nat.reduceLT, s_fi, s_fl, s_fo, s_fa, s_f0, s_f1, s_set, s_ss, lg_cmp_ge, lg_cmp_le, lg_cmp_gt, lg_cmp_lt, lg_cmp_eq, s_brT, s_brF, s_10, w_Fo_hasPlaces, r_Fo_hasPlaces, l_Fo_hasPlaces_0, l_Fo_hasPlaces_22, l_Fo_hasPlaces_23, l_Fo_hasPlaces_33, l_Fo_hasPlaces_37, l_Fo_hasPlaces_61, l_Fo_hasPlaces_70, l_Fo_hasPlaces_87, l_Fo_hasPlaces_88, f_3_45, kj_0, f_3_143, kc_1, f_3_139, kc_4, kc_2, ml_3_106, w_Ta_holds, kc_0, ml_3_149, w_Fo_dataPlace, f_3_33, f_3_120, hO', hL']
    rw [pk_mul, nI_l (by omega)]
    refine q_c0 (Nat.le_refl _) (Nat.le_refl _) ?_
    refine c_Ta_holds (x := 0) hL (by omega) (by omega) (by omega) ?_
    simp -implicitDefEqProofs only [s_go, s_nil, s_cons, q_ins, s_op, s_i, s_j, s_a, s_v, s_li, s_lj, s_la, s_liO, s_ljO, s_laO, q_get, q_p1, q_p2, s_n2i, s_n2r, s_n2l, s_n2n, q_pad, q_ar, s_ob, s_obO, q_nth, s_ri, s_riO, s_rb, s_rbO, s_rzO, s_rl, s_rlO, s_rq, s_rqO, s_ry, s_ryO, s_dn, s_tl, s_tn, s_ap, s_an, s_ci, s_cr, s_ni, s_n0, s_n1, q_ags, q_cat, List.contains_nil, List.contains_cons, Nat.reduceBEq, Bool.or_false, Bool.false_or, Bool.true_or, Bool.false_eq_true, ↓reduceIte, Nat.le_refl, Nat.zero_le, true_and, and_true, Nat.reduceLeDiff, Nat.reduceAdd, Nat.add_zero, Nat.zero_add, List.length_cons, List.length_nil, List.set_cons_zero, List.set_cons_succ, Nat.reduceLT, s_fi, s_fl, s_fo, s_fa, s_f0, s_f1, s_set, s_ss, lg_cmp_ge, lg_cmp_le, lg_cmp_gt, lg_cmp_lt, lg_cmp_eq, s_brT, s_brF, s_10, w_Fo_hasPlaces, r_Fo_hasPlaces, l_Fo_hasPlaces_0, l_Fo_hasPlaces_22, l_Fo_hasPlaces_23, l_Fo_hasPlaces_33, l_Fo_hasPlaces_37, l_Fo_hasPlaces_61, l_Fo_hasPlaces_70, l_Fo_hasPlaces_87, l_Fo_hasPlaces_88, f_3_45, kj_0, f_3_143, kc_1, f_3_139, kc_4, kc_2, ml_3_106, w_Ta_holds, kc_0, ml_3_149, w_Fo_dataPlace, f_3_33, f_3_120, hO', hL']
    by_cases hh : (N + 1) * w ≤ ll
    · rw [q_z_t hh]
      refine ⟨fun z => absurd z (by decide), fun _ => ?_⟩
      exact z_Fo_hasPlaces hO hB hL hG b1 b2 hN (by rw [← hw]; omega) q1 q0 (N + 1) 0 (by omega) (fun j hj => absurd hj (by omega))
    · rw [q_z_f hh]
      exact ⟨fun _ => q0 (fun z => by have := z.1; rw [← hw] at this; omega), fun z => absurd rfl z⟩
  refine q_in u_Fo_hasPlaces (by rw [L_Fo_hasPlaces]; exact Nat.le_of_ble_eq_true rfl) ?_
  rw [L_Fo_hasPlaces]
  refine q_at o_Fo_hasPlaces [23] 20 l_Fo_hasPlaces_0 ?_
  simp -implicitDefEqProofs only [s_go, s_nil, s_cons, q_ins, s_op, s_i, s_j, s_a, s_v, s_li, s_lj, s_la, s_liO, s_ljO, s_laO, q_get, q_p1, q_p2, s_n2i, s_n2r, s_n2l, s_n2n, q_pad, q_ar, s_ob, s_obO, q_nth, s_ri, s_riO, s_rb, s_rbO, s_rzO, s_rl, s_rlO, s_rq, s_rqO, s_ry, s_ryO, s_dn, s_tl, s_tn, s_ap, s_an, s_ci, s_cr, s_ni, s_n0, s_n1, q_ags, q_cat, List.contains_nil, List.contains_cons, Nat.reduceBEq, Bool.or_false, Bool.false_or, Bool.true_or, Bool.false_eq_true, ↓reduceIte, Nat.le_refl, Nat.zero_le, true_and, and_true, Nat.reduceLeDiff, Nat.reduceAdd, Nat.add_zero, Nat.zero_add, List.length_cons, List.length_nil, List.set_cons_zero, List.set_cons_succ, Nat.reduceLT, s_fi, s_fl, s_fo, s_fa, s_f0, s_f1, s_set, s_ss, lg_cmp_ge, lg_cmp_le, lg_cmp_gt, lg_cmp_lt, lg_cmp_eq, s_brT, s_brF, s_10, w_Fo_hasPlaces, r_Fo_hasPlaces, l_Fo_hasPlaces_0, l_Fo_hasPlaces_22, l_Fo_hasPlaces_23, l_Fo_hasPlaces_33, l_Fo_hasPlaces_37, l_Fo_hasPlaces_61, l_Fo_hasPlaces_70, l_Fo_hasPlaces_87, l_Fo_hasPlaces_88, f_3_45, kj_0, f_3_143, kc_1, f_3_139, kc_4, kc_2, ml_3_106, w_Ta_holds, kc_0, ml_3_149, w_Fo_dataPlace, f_3_33, f_3_120, hO', hL', nI_1]
  by_cases hl : lg
  · rw [q_z_t hl]
    exact ⟨fun z => absurd z (by decide), fun _ => fin 4 (by rw [if_pos hl])⟩
  · rw [q_z_f hl]
    exact ⟨fun _ => fin 2 (by rw [if_neg hl]), fun z => absurd rfl z⟩
