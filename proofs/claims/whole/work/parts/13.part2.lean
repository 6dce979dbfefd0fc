/-! Part.readFactors, isRead -/
abbrev w2 (F : Nat → Nat) (p : Nat) : Nat := 256 * F p + F (p + 1)
def NF (fl : Nat) : Nat := if BT fl 3 then 1 else if BT fl 6 then 2 else if BT fl 7 then 4 else 0
def FA (F : Nat → Nat) (fl p : Nat) : Int := if BT fl 3 then S16 (w2 F p) else if BT fl 6 then S16 (w2 F p) else if BT fl 7 then S16 (w2 F p) else 16384
def FB (F : Nat → Nat) (fl p : Nat) : Int := if BT fl 3 then 0 else if BT fl 6 then 0 else if BT fl 7 then S16 (w2 F (p + 2)) else 0
def FC (F : Nat → Nat) (fl p : Nat) : Int := if BT fl 3 then 0 else if BT fl 6 then 0 else if BT fl 7 then S16 (w2 F (p + 4)) else 0
def FD (F : Nat → Nat) (fl p : Nat) : Int := if BT fl 3 then S16 (w2 F p) else if BT fl 6 then S16 (w2 F (p + 2)) else if BT fl 7 then S16 (w2 F (p + 6)) else 16384
theorem w2_lt {F : Nat → Nat} (hF : ∀ j, F j < 256) (p : Nat) : w2 F p < 65536 := by
  have := hF p; have := hF (p + 1); show 256 * F p + F (p + 1) < 65536; omega
theorem S16_sm {v : Nat} (h : v < 65536) : q_sm (S16 v) := by unfold q_sm S16; split <;> omega
theorem q_cuP {h : q_H} {o cu f p e : Nat} {ro : Int32} {x : q_E} (hC : q_Cu h cu f p e ro) (ho : h o = some x) (hx : ∀ y, x ≠ .inr (2, y)) : o ≠ cu := by
  intro q
  subst q
  unfold q_Cu at hC
  rw [ho] at hC
  exact hx _ (Option.some.inj hC)
theorem e_Pa_nc {cu : Nat} {fl ch p q a b c d : Int32} : ∀ y, e_Pa cu fl ch p q a b c d ≠ .inr (2, y) := by
  intro y h
  unfold e_Pa at h
  cases h
/-- only the cells o and u may have changed -/
def q_2 (h h' : q_H) (o u : Nat) : Prop := ∀ b, b ≠ o → b ≠ u → h' b = h b
theorem k16384 : (16384 : Int32) = iI 16384 := rfl
theorem k0i : (0 : Int32) = iI 0 := rfl
theorem s_hs {h : q_H} {a : Nat} {e : q_E} : q_set h a e a = some e := s_set h a e
set_option maxRecDepth 100000 in
set_option maxHeartbeats 4000000 in
theorem c_Pa_readFactors {G : q_G} {l : Launch} {dd o cu f row m n sz p e fl : Nat} {ro ch p0 q0 a b c d : Int32} {g : Nat → Int32} {F : Nat → Nat} {h : q_H} {Q : q_P} (hP : h o = some (e_Pa cu (nI fl) ch p0 q0 a b c d)) (hf : fl < 65536) (hC : q_Cu h cu f p e ro) (hB : q_By h f row m g sz F) (he : e ≤ sz) (hpe : p ≤ e)
    (q1 : p + 2 * NF fl ≤ e → ∀ h', q_2 h h' o cu → h' o = some (e_Pa cu (nI fl) ch p0 q0 (iI (FA F fl p)) (iI (FB F fl p)) (iI (FC F fl p)) (iI (FD F fl p))) → q_Cu h' cu f (p + 2 * NF fl) e ro → Q none h' n)
    (q2 : e < p + 2 * NF fl → ∀ h' a b c d p', q_2 h h' o cu → h' o = some (e_Pa cu (nI fl) ch p0 q0 a b c d) → q_Cu h' cu f p' e 1 → Q none h' n) : q_Call G l M_Pa_readFactors (dd + 1) 0 0 [.ref o] h n Q := by
  have hF := hB.2.2.2.2.2.2
  have hoc : o ≠ cu := q_cuP hC hP e_Pa_nc
  have hof : f ≠ o := fun q => by have := hB.1; rw [q, hP] at this; cases this
  have hor : row ≠ o := fun q => by have := hB.2.1; rw [q, hP] at this; cases this
  have hcf : f ≠ cu := fun q => by have := hB.1; rw [q] at this; unfold q_Cu at hC; rw [hC] at this; cases this
  have hcr : row ≠ cu := fun q => by have := hB.2.1; rw [q] at this; unfold q_Cu at hC; rw [hC] at this; cases this
  have hP' := hP
  unfold e_Pa at hP'
  have hcu : h cu = some (.inr (2, [.ref f, .int (nI p), .int (nI e), .int ro])) := hC
  have gB : ∀ h', q_2 h h' o cu → q_By h' f row m g sz F := fun h' hh => ⟨(hh f hof hcf).trans hB.1, (hh row hor hcr).trans hB.2.1, hB.2.2⟩
  have j2 : ∀ {h1 h2 : q_H} {x : q_E}, q_2 h h1 o cu → h2 = q_set h1 cu x → q_2 h h2 o cu := fun hh e b b1 b2 => by subst e; rw [s_ne _ _ b2]; exact hh b b1 b2
  have j1 : ∀ {h1 h2 : q_H} {x : q_E}, q_2 h h1 o cu → h2 = q_set h1 o x → q_2 h h2 o cu := fun hh e b b1 b2 => by subst e; rw [s_ne _ _ b1]; exact hh b b1 b2
  have r0 : q_2 h h o cu := fun b _ _ => rfl
  unfold NF at q1 q2
  unfold FA FB FC FD at q1
  refine q_in u_Pa_readFactors (by rw [L_Pa_readFactors]; exact Nat.le_of_ble_eq_true rfl) ?_
  rw [L_Pa_readFactors]
  refine q_at o_Pa_readFactors [] 20 l_Pa_readFactors_0 ?_
  simp -implicitDefEqProofs only [s_go, s_nil, s_cons, q_ins, s_op, s_i, s_j, s_a, s_v, s_li, s_lj, s_la, s_liO, s_ljO, s_laO, q_get, q_p1, q_p2, s_n2i, s_n2r, s_n2l, s_n2n, q_pad, q_ar, s_ob, s_obO, q_nth, s_ri, s_riO, s_rb, s_rbO, s_rzO, s_rl, s_rlO, s_rq, s_rqO, s_ry, s_ryO, s_dn, s_tl, s_tn, s_ap, s_an, s_ci, s_cr, s_ni, s_n0, s_n1, q_ags, q_cat, List.contains_nil, List.contains_cons, Nat.reduceBEq, Bool.or_false, Bool.false_or, Bool.true_or, Bool.false_eq_true, ↓reduceIte, Nat.le_refl, Nat.zero_le, true_and, and_true, Nat.reduceLeDiff, Nat.reduceAdd, Nat.add_zero, Nat.zero_add, List.length_cons, List.length_nil, List.set_cons_zero, List.set_cons_succ, Nat.reduceLT, s_fi, s_fl, s_fo, s_fa, s_f0, s_f1, s_set, s_ss, lg_cmp_ge, lg_cmp_le, lg_cmp_gt, lg_cmp_lt, lg_cmp_eq, s_brT, s_brF, s_10, w_Pa_readFactors, r_Pa_readFactors, l_Pa_readFactors_0, l_Pa_readFactors_56, l_Pa_readFactors_92, l_Pa_readFactors_150, ks_16384, f_5_60, ty_5_5, kc_0, f_5_63, ty_5_6, f_5_66, ty_5_7, f_5_69, ty_5_8, kb_8, ml_5_53, w_Pa_has, f_5_14, ml_5_24, w_Cu_u16, kb_64, ks_128, hP', hcu]
  refine q_c0 (Nat.le_refl _) (Nat.le_refl _) ?_
  generalize hh1 : q_set h o _ = h1
  have t1 : q_2 h h1 o cu := j1 r0 hh1.symm
  have P1 : h1 o = some (e_Pa cu (nI fl) ch p0 q0 (iI 16384) (iI 0) (iI 0) (iI 16384)) := by rw [← hh1]; exact s_set _ _ _
  have C1 : q_Cu h1 cu f p e ro := by unfold q_Cu; rw [← hh1, s_ne _ _ hoc.symm]; exact hcu
  have P1' := P1
  unfold e_Pa at P1'
  have C1' : h1 cu = some (.inr (2, [.ref f, .int (nI p), .int (nI e), .int ro])) := C1
  refine c_Pa_has (k := 3) P1 hf (by omega) (fun b3 => ?_) (fun b3 => ?_)
  · rw [if_pos b3] at q1 q2
    simp -implicitDefEqProofs only [s_go, s_nil, s_cons, q_ins, s_op, s_i, s_j, s_a, s_v, s_li, s_lj, s_la, s_liO, s_ljO, s_laO, q_get, q_p1, q_p2, s_n2i, s_n2r, s_n2l, s_n2n, q_pad, q_ar, s_ob, s_obO, q_nth, s_ri, s_riO, s_rb, s_rbO, s_rzO, s_rl, s_rlO, s_rq, s_rqO, s_ry, s_ryO, s_dn, s_tl, s_tn, s_ap, s_an, s_ci, s_cr, s_ni, s_n0, s_n1, q_ags, q_cat, List.contains_nil, List.contains_cons, Nat.reduceBEq, Bool.or_false, Bool.false_or, Bool.true_or, Bool.false_eq_true, ↓reduceIte, Nat.le_refl, Nat.zero_le, true_and, and_true, Nat.reduceLeDiff, Nat.reduceAdd, Nat.add_zero, Nat.zero_add, List.length_cons, List.length_nil, List.set_cons_zero, List.set_cons_succ, Nat.reduceLT, s_fi, s_fl, s_fo, s_fa, s_f0, s_f1, s_set, s_ss, lg_cmp_ge, lg_cmp_le, lg_cmp_gt, lg_cmp_lt, lg_cmp_eq, s_brT, s_brF, s_10, w_Pa_readFactors, r_Pa_readFactors, l_Pa_readFactors_0, l_Pa_readFactors_56, l_Pa_readFactors_92, l_Pa_readFactors_150, ks_16384, f_5_60, ty_5_5, kc_0, f_5_63, ty_5_6, f_5_66, ty_5_7, f_5_69, ty_5_8, kb_8, ml_5_53, w_Pa_has, f_5_14, ml_5_24, w_Cu_u16, kb_64, ks_128, P1', C1']
    refine q_c0 (Nat.le_refl _) (Nat.le_refl _) ?_
    refine c_Cu_u16 C1 (gB _ t1) he hpe (fun hl => ?_) (fun hl => ?_)
    · simp -implicitDefEqProofs only [s_go, s_nil, s_cons, q_ins, s_op, s_i, s_j, s_a, s_v, s_li, s_lj, s_la, s_liO, s_ljO, s_laO, q_get, q_p1, q_p2, s_n2i, s_n2r, s_n2l, s_n2n, q_pad, q_ar, s_ob, s_obO, q_nth, s_ri, s_riO, s_rb, s_rbO, s_rzO, s_rl, s_rlO, s_rq, s_rqO, s_ry, s_ryO, s_dn, s_tl, s_tn, s_ap, s_an, s_ci, s_cr, s_ni, s_n0, s_n1, q_ags, q_cat, List.contains_nil, List.contains_cons, Nat.reduceBEq, Bool.or_false, Bool.false_or, Bool.true_or, Bool.false_eq_true, ↓reduceIte, Nat.le_refl, Nat.zero_le, true_and, and_true, Nat.reduceLeDiff, Nat.reduceAdd, Nat.add_zero, Nat.zero_add, List.length_cons, List.length_nil, List.set_cons_zero, List.set_cons_succ, Nat.reduceLT, s_fi, s_fl, s_fo, s_fa, s_f0, s_f1, s_set, s_ss, lg_cmp_ge, lg_cmp_le, lg_cmp_gt, lg_cmp_lt, lg_cmp_eq, s_brT, s_brF, s_10, w_Pa_readFactors, r_Pa_readFactors, l_Pa_readFactors_0, l_Pa_readFactors_56, l_Pa_readFactors_92, l_Pa_readFactors_150, ks_16384, f_5_60, ty_5_5, kc_0, f_5_63, ty_5_6, f_5_66, ty_5_7, f_5_69, ty_5_8, kb_8, ml_5_53, w_Pa_has, f_5_14, ml_5_24, w_Cu_u16, kb_64, ks_128, P1', C1', s_ne _ _ hoc, s_ne _ _ hoc.symm, e_Cu]
      refine q1 (by omega) _ (j1 (j2 t1 rfl) rfl) ?_ ?_
      · simp only [if_pos b3, s_hs]
        rw [q_s16' (w2_lt hF p)]
        rfl
      · unfold q_Cu
        rw [s_ne _ _ hoc.symm, s_set]
    · simp -implicitDefEqProofs only [s_go, s_nil, s_cons, q_ins, s_op, s_i, s_j, s_a, s_v, s_li, s_lj, s_la, s_liO, s_ljO, s_laO, q_get, q_p1, q_p2, s_n2i, s_n2r, s_n2l, s_n2n, q_pad, q_ar, s_ob, s_obO, q_nth, s_ri, s_riO, s_rb, s_rbO, s_rzO, s_rl, s_rlO, s_rq, s_rqO, s_ry, s_ryO, s_dn, s_tl, s_tn, s_ap, s_an, s_ci, s_cr, s_ni, s_n0, s_n1, q_ags, q_cat, List.contains_nil, List.contains_cons, Nat.reduceBEq, Bool.or_false, Bool.false_or, Bool.true_or, Bool.false_eq_true, ↓reduceIte, Nat.le_refl, Nat.zero_le, true_and, and_true, Nat.reduceLeDiff, Nat.reduceAdd, Nat.add_zero, Nat.zero_add, List.length_cons, List.length_nil, List.set_cons_zero, List.set_cons_succ, Nat.reduceLT, s_fi, s_fl, s_fo, s_fa, s_f0, s_f1, s_set, s_ss, lg_cmp_ge, lg_cmp_le, lg_cmp_gt, lg_cmp_lt, lg_cmp_eq, s_brT, s_brF, s_10, w_Pa_readFactors, r_Pa_readFactors, l_Pa_readFactors_0, l_Pa_readFactors_56, l_Pa_readFactors_92, l_Pa_readFactors_150, ks_16384, f_5_60, ty_5_5, kc_0, f_5_63, ty_5_6, f_5_66, ty_5_7, f_5_69, ty_5_8, kb_8, ml_5_53, w_Pa_has, f_5_14, ml_5_24, w_Cu_u16, kb_64, ks_128, P1', C1', s_ne _ _ hoc, s_ne _ _ hoc.symm, e_Cu]
      refine q2 (by omega) _ _ _ _ _ p (j1 (j2 t1 rfl) rfl) (s_set _ _ _) ?_
      unfold q_Cu
      rw [s_ne _ _ hoc.symm, s_set]
  rw [if_neg b3] at q1 q2
  simp only [if_neg b3] at q1
  simp -implicitDefEqProofs only [s_go, s_nil, s_cons, q_ins, s_op, s_i, s_j, s_a, s_v, s_li, s_lj, s_la, s_liO, s_ljO, s_laO, q_get, q_p1, q_p2, s_n2i, s_n2r, s_n2l, s_n2n, q_pad, q_ar, s_ob, s_obO, q_nth, s_ri, s_riO, s_rb, s_rbO, s_rzO, s_rl, s_rlO, s_rq, s_rqO, s_ry, s_ryO, s_dn, s_tl, s_tn, s_ap, s_an, s_ci, s_cr, s_ni, s_n0, s_n1, q_ags, q_cat, List.contains_nil, List.contains_cons, Nat.reduceBEq, Bool.or_false, Bool.false_or, Bool.true_or, Bool.false_eq_true, ↓reduceIte, Nat.le_refl, Nat.zero_le, true_and, and_true, Nat.reduceLeDiff, Nat.reduceAdd, Nat.add_zero, Nat.zero_add, List.length_cons, List.length_nil, List.set_cons_zero, List.set_cons_succ, Nat.reduceLT, s_fi, s_fl, s_fo, s_fa, s_f0, s_f1, s_set, s_ss, lg_cmp_ge, lg_cmp_le, lg_cmp_gt, lg_cmp_lt, lg_cmp_eq, s_brT, s_brF, s_10, w_Pa_readFactors, r_Pa_readFactors, l_Pa_readFactors_0, l_Pa_readFactors_56, l_Pa_readFactors_92, l_Pa_readFactors_150, ks_16384, f_5_60, ty_5_5, kc_0, f_5_63, ty_5_6, f_5_66, ty_5_7, f_5_69, ty_5_8, kb_8, ml_5_53, w_Pa_has, f_5_14, ml_5_24, w_Cu_u16, kb_64, ks_128, P1', C1']
  refine q_c0 (Nat.le_refl _) (Nat.le_refl _) ?_
  refine c_Pa_has (k := 6) P1 hf (by omega) (fun b6 => ?_) (fun b6 => ?_)
  · rw [if_pos b6] at q1 q2
    simp only [if_pos b6] at q1
    simp -implicitDefEqProofs only [s_go, s_nil, s_cons, q_ins, s_op, s_i, s_j, s_a, s_v, s_li, s_lj, s_la, s_liO, s_ljO, s_laO, q_get, q_p1, q_p2, s_n2i, s_n2r, s_n2l, s_n2n, q_pad, q_ar, s_ob, s_obO, q_nth, s_ri, s_riO, s_rb, s_rbO, s_rzO, s_rl, s_rlO, s_rq, s_rqO, s_ry, s_ryO, s_dn, s_tl, s_tn, s_ap, s_an, s_ci, s_cr, s_ni, s_n0, s_n1, q_ags, q_cat, List.contains_nil, List.contains_cons, Nat.reduceBEq, Bool.or_false, Bool.false_or, Bool.true_or, Bool.false_eq_true, ↓reduceIte, Nat.le_refl, Nat.zero_le, true_and, and_true, Nat.reduceLeDiff, Nat.reduceAdd, Nat.add_zero, Nat.zero_add, List.length_cons, List.length_nil, List.set_cons_zero, List.set_cons_succ, Nat.reduceLT, s_fi, s_fl, s_fo, s_fa, s_f0, s_f1, s_set, s_ss, lg_cmp_ge, lg_cmp_le, lg_cmp_gt, lg_cmp_lt, lg_cmp_eq, s_brT, s_brF, s_10, w_Pa_readFactors, r_Pa_readFactors, l_Pa_readFactors_0, l_Pa_readFactors_56, l_Pa_readFactors_92, l_Pa_readFactors_150, ks_16384, f_5_60, ty_5_5, kc_0, f_5_63, ty_5_6, f_5_66, ty_5_7, f_5_69, ty_5_8, kb_8, ml_5_53, w_Pa_has, f_5_14, ml_5_24, w_Cu_u16, kb_64, ks_128, P1', C1']
    refine q_c0 (Nat.le_refl _) (Nat.le_refl _) ?_
    refine c_Cu_u16 C1 (gB _ t1) he hpe (fun hl => ?_) (fun hl => ?_)
    · simp -implicitDefEqProofs only [s_go, s_nil, s_cons, q_ins, s_op, s_i, s_j, s_a, s_v, s_li, s_lj, s_la, s_liO, s_ljO, s_laO, q_get, q_p1, q_p2, s_n2i, s_n2r, s_n2l, s_n2n, q_pad, q_ar, s_ob, s_obO, q_nth, s_ri, s_riO, s_rb, s_rbO, s_rzO, s_rl, s_rlO, s_rq, s_rqO, s_ry, s_ryO, s_dn, s_tl, s_tn, s_ap, s_an, s_ci, s_cr, s_ni, s_n0, s_n1, q_ags, q_cat, List.contains_nil, List.contains_cons, Nat.reduceBEq, Bool.or_false, Bool.false_or, Bool.true_or, Bool.false_eq_true, ↓reduceIte, Nat.le_refl, Nat.zero_le, true_and, and_true, Nat.reduceLeDiff, Nat.reduceAdd, Nat.add_zero, Nat.zero_add, List.length_cons, List.length_nil, List.set_cons_zero, List.set_cons_succ, Nat.reduceLT, s_fi, s_fl, s_fo, s_fa, s_f0, s_f1, s_set, s_ss, lg_cmp_ge, lg_cmp_le, lg_cmp_gt, lg_cmp_lt, lg_cmp_eq, s_brT, s_brF, s_10, w_Pa_readFactors, r_Pa_readFactors, l_Pa_readFactors_0, l_Pa_readFactors_56, l_Pa_readFactors_92, l_Pa_readFactors_150, ks_16384, f_5_60, ty_5_5, kc_0, f_5_63, ty_5_6, f_5_66, ty_5_7, f_5_69, ty_5_8, kb_8, ml_5_53, w_Pa_has, f_5_14, ml_5_24, w_Cu_u16, kb_64, ks_128, P1', C1', s_ne _ _ hoc, s_ne _ _ hoc.symm, e_Cu]
      refine q_c0 (Nat.le_refl _) (Nat.le_refl _) ?_
      generalize hh2 : q_set (q_set h1 cu _) o _ = h2
      have t2 : q_2 h h2 o cu := j1 (j2 t1 rfl) hh2.symm
      have P2 : h2 o = some (e_Pa cu (nI fl) ch p0 q0 (iI (S16 (w2 F p))) (iI 0) (iI 0) (iI 16384)) := by rw [← hh2, s_set, q_s16' (w2_lt hF p)]; rfl
      have C2 : q_Cu h2 cu f (p + 2) e ro := by unfold q_Cu; rw [← hh2, s_ne _ _ hoc.symm, s_set]
      refine c_Cu_u16 C2 (gB _ t2) he hl (fun hl2 => ?_) (fun hl2 => ?_)
      · have P2' := P2
        unfold e_Pa at P2'
        simp -implicitDefEqProofs only [s_go, s_nil, s_cons, q_ins, s_op, s_i, s_j, s_a, s_v, s_li, s_lj, s_la, s_liO, s_ljO, s_laO, q_get, q_p1, q_p2, s_n2i, s_n2r, s_n2l, s_n2n, q_pad, q_ar, s_ob, s_obO, q_nth, s_ri, s_riO, s_rb, s_rbO, s_rzO, s_rl, s_rlO, s_rq, s_rqO, s_ry, s_ryO, s_dn, s_tl, s_tn, s_ap, s_an, s_ci, s_cr, s_ni, s_n0, s_n1, q_ags, q_cat, List.contains_nil, List.contains_cons, Nat.reduceBEq, Bool.or_false, Bool.false_or, Bool.true_or, Bool.false_eq_true, ↓reduceIte, Nat.le_refl, Nat.zero_le, true_and, and_true, Nat.reduceLeDiff, Nat.reduceAdd, Nat.add_zero, Nat.zero_add, List.length_cons, List.length_nil, List.set_cons_zero, List.set_cons_succ, Nat.reduceLT, s_fi, s_fl, s_fo, s_fa, s_f0, s_f1, s_set, s_ss, lg_cmp_ge, lg_cmp_le, lg_cmp_gt, lg_cmp_lt, lg_cmp_eq, s_brT, s_brF, s_10, w_Pa_readFactors, r_Pa_readFactors, l_Pa_readFactors_0, l_Pa_readFactors_56, l_Pa_readFactors_92, l_Pa_readFactors_150, ks_16384, f_5_60, ty_5_5, kc_0, f_5_63, ty_5_6, f_5_66, ty_5_7, f_5_69, ty_5_8, kb_8, ml_5_53, w_Pa_has, f_5_14, ml_5_24, w_Cu_u16, kb_64, ks_128, P2', s_ne _ _ hoc, s_ne _ _ hoc.symm, e_Cu]
        refine q1 (by omega) _ (j1 (j2 t2 rfl) rfl) ?_ ?_
        · rw [s_set, q_s16' (w2_lt hF (p + 2))]
          rfl
        · unfold q_Cu
          rw [s_ne _ _ hoc.symm, s_set]
      · have P2' := P2
        unfold e_Pa at P2'
        simp -implicitDefEqProofs only [s_go, s_nil, s_cons, q_ins, s_op, s_i, s_j, s_a, s_v, s_li, s_lj, s_la, s_liO, s_ljO, s_laO, q_get, q_p1, q_p2, s_n2i, s_n2r, s_n2l, s_n2n, q_pad, q_ar, s_ob, s_obO, q_nth, s_ri, s_riO, s_rb, s_rbO, s_rzO, s_rl, s_rlO, s_rq, s_rqO, s_ry, s_ryO, s_dn, s_tl, s_tn, s_ap, s_an, s_ci, s_cr, s_ni, s_n0, s_n1, q_ags, q_cat, List.contains_nil, List.contains_cons, Nat.reduceBEq, Bool.or_false, Bool.false_or, Bool.true_or, Bool.false_eq_true, ↓reduceIte, Nat.le_refl, Nat.zero_le, true_and, and_true, Nat.reduceLeDiff, Nat.reduceAdd, Nat.add_zero, Nat.zero_add, List.length_cons, List.length_nil, List.set_cons_zero, List.set_cons_succ, Nat.reduceLT, s_fi, s_fl, s_fo, s_fa, s_f0, s_f1, s_set, s_ss, lg_cmp_ge, lg_cmp_le, lg_cmp_gt, lg_cmp_lt, lg_cmp_eq, s_brT, s_brF, s_10, w_Pa_readFactors, r_Pa_readFactors, l_Pa_readFactors_0, l_Pa_readFactors_56, l_Pa_readFactors_92, l_Pa_readFactors_150, ks_16384, f_5_60, ty_5_5, kc_0, f_5_63, ty_5_6, f_5_66, ty_5_7, f_5_69, ty_5_8, kb_8, ml_5_53, w_Pa_has, f_5_14, ml_5_24, w_Cu_u16, kb_64, ks_128, P2', s_ne _ _ hoc, s_ne _ _ hoc.symm, e_Cu]
        refine q2 (by omega) _ _ _ _ _ (p + 2) (j1 (j2 t2 rfl) rfl) (s_set _ _ _) ?_
        unfold q_Cu
        rw [s_ne _ _ hoc.symm, s_set]
    · simp -implicitDefEqProofs only [s_go, s_nil, s_cons, q_ins, s_op, s_i, s_j, s_a, s_v, s_li, s_lj, s_la, s_liO, s_ljO, s_laO, q_get, q_p1, q_p2, s_n2i, s_n2r, s_n2l, s_n2n, q_pad, q_ar, s_ob, s_obO, q_nth, s_ri, s_riO, s_rb, s_rbO, s_rzO, s_rl, s_rlO, s_rq, s_rqO, s_ry, s_ryO, s_dn, s_tl, s_tn, s_ap, s_an, s_ci, s_cr, s_ni, s_n0, s_n1, q_ags, q_cat, List.contains_nil, List.contains_cons, Nat.reduceBEq, Bool.or_false, Bool.false_or, Bool.true_or, Bool.false_eq_true, ↓reduceIte, Nat.le_refl, Nat.zero_le, true_and, and_true, Nat.reduceLeDiff, Nat.reduceAdd, Nat.add_zero, Nat.zero_add, List.length_cons, List.length_nil, List.set_cons_zero, List.set_cons_succ, Nat.reduceLT, s_fi, s_fl, s_fo, s_fa, s_f0, s_f1, s_set, s_ss, lg_cmp_ge, lg_cmp_le, lg_cmp_gt, lg_cmp_lt, lg_cmp_eq, s_brT, s_brF, s_10, w_Pa_readFactors, r_Pa_readFactors, l_Pa_readFactors_0, l_Pa_readFactors_56, l_Pa_readFactors_92, l_Pa_readFactors_150, ks_16384, f_5_60, ty_5_5, kc_0, f_5_63, ty_5_6, f_5_66, ty_5_7, f_5_69, ty_5_8, kb_8, ml_5_53, w_Pa_has, f_5_14, ml_5_24, w_Cu_u16, kb_64, ks_128, P1', C1', s_ne _ _ hoc, s_ne _ _ hoc.symm, e_Cu]
      refine q_c0 (Nat.le_refl _) (Nat.le_refl _) ?_
      generalize hh2 : q_set (q_set h1 cu _) o _ = h2
      have t2 : q_2 h h2 o cu := j1 (j2 t1 rfl) hh2.symm
      have P2 : h2 o = some (e_Pa cu (nI fl) ch p0 q0 (0 : Int32).toInt16.toInt32 (iI 0) (iI 0) (iI 16384)) := by rw [← hh2]; exact s_set _ _ _
      have C2 : q_Cu h2 cu f p e 1 := by unfold q_Cu; rw [← hh2, s_ne _ _ hoc.symm, s_set]
      have P2' := P2
      unfold e_Pa at P2'
      refine c_Cu_u16 C2 (gB _ t2) he hpe (fun hl2 => absurd hl2 (by omega)) (fun hl2 => ?_)
      simp -implicitDefEqProofs only [s_go, s_nil, s_cons, q_ins, s_op, s_i, s_j, s_a, s_v, s_li, s_lj, s_la, s_liO, s_ljO, s_laO, q_get, q_p1, q_p2, s_n2i, s_n2r, s_n2l, s_n2n, q_pad, q_ar, s_ob, s_obO, q_nth, s_ri, s_riO, s_rb, s_rbO, s_rzO, s_rl, s_rlO, s_rq, s_rqO, s_ry, s_ryO, s_dn, s_tl, s_tn, s_ap, s_an, s_ci, s_cr, s_ni, s_n0, s_n1, q_ags, q_cat, List.contains_nil, List.contains_cons, Nat.reduceBEq, Bool.or_false, Bool.false_or, Bool.true_or, Bool.false_eq_true, ↓reduceIte, Nat.le_refl, Nat.zero_le, true_and, and_true, Nat.reduceLeDiff, Nat.reduceAdd, Nat.add_zero, Nat.zero_add, List.length_cons, List.length_nil, List.set_cons_zero, List.set_cons_succ, Nat.reduceLT, s_fi, s_fl, s_fo, s_fa, s_f0, s_f1, s_set, s_ss, lg_cmp_ge, lg_cmp_le, lg_cmp_gt, lg_cmp_lt, lg_cmp_eq, s_brT, s_brF, s_10, w_Pa_readFactors, r_Pa_readFactors, l_Pa_readFactors_0, l_Pa_readFactors_56, l_Pa_readFactors_92, l_Pa_readFactors_150, ks_16384, f_5_60, ty_5_5, kc_0, f_5_63, ty_5_6, f_5_66, ty_5_7, f_5_69, ty_5_8, kb_8, ml_5_53, w_Pa_has, f_5_14, ml_5_24, w_Cu_u16, kb_64, ks_128, P2', s_ne _ _ hoc, s_ne _ _ hoc.symm, e_Cu]
      refine q2 (by omega) _ _ _ _ _ p (j1 (j2 t2 rfl) rfl) (s_set _ _ _) ?_
      unfold q_Cu
      rw [s_ne _ _ hoc.symm, s_set]
  rw [if_neg b6] at q1 q2
  simp only [if_neg b6] at q1
  simp -implicitDefEqProofs only [s_go, s_nil, s_cons, q_ins, s_op, s_i, s_j, s_a, s_v, s_li, s_lj, s_la, s_liO, s_ljO, s_laO, q_get, q_p1, q_p2, s_n2i, s_n2r, s_n2l, s_n2n, q_pad, q_ar, s_ob, s_obO, q_nth, s_ri, s_riO, s_rb, s_rbO, s_rzO, s_rl, s_rlO, s_rq, s_rqO, s_ry, s_ryO, s_dn, s_tl, s_tn, s_ap, s_an, s_ci, s_cr, s_ni, s_n0, s_n1, q_ags, q_cat, List.contains_nil, List.contains_cons, Nat.reduceBEq, Bool.or_false, Bool.false_or, Bool.true_or, Bool.false_eq_true, ↓reduceIte, Nat.le_refl, Nat.zero_le, true_and, and_true, Nat.reduceLeDiff, Nat.reduceAdd, Nat.add_zero, Nat.zero_add, List.length_cons, List.length_nil, List.set_cons_zero, List.set_cons_succ, Nat.reduceLT, s_fi, s_fl, s_fo, s_fa, s_f0, s_f1, s_set, s_ss, lg_cmp_ge, lg_cmp_le, lg_cmp_gt, lg_cmp_lt, lg_cmp_eq, s_brT, s_brF, s_10, w_Pa_readFactors, r_Pa_readFactors, l_Pa_readFactors_0, l_Pa_readFactors_56, l_Pa_readFactors_92, l_Pa_readFactors_150, ks_16384, f_5_60, ty_5_5, kc_0, f_5_63, ty_5_6, f_5_66, ty_5_7, f_5_69, ty_5_8, kb_8, ml_5_53, w_Pa_has, f_5_14, ml_5_24, w_Cu_u16, kb_64, ks_128, P1', C1']
  refine q_c0 (Nat.le_refl _) (Nat.le_refl _) ?_
  refine c_Pa_has (k := 7) P1 hf (by omega) (fun b7 => ?_) (fun b7 => ?_)
  · rw [if_pos b7] at q1 q2
    simp only [if_pos b7] at q1
    -- four numbers, one behind another; once it ran out, it stays so
    simp -implicitDefEqProofs only [s_go, s_nil, s_cons, q_ins, s_op, s_i, s_j, s_a, s_v, s_li, s_lj, s_la, s_liO, s_ljO, s_laO, q_get, q_p1, q_p2, s_n2i, s_n2r, s_n2l, s_n2n, q_pad, q_ar, s_ob, s_obO, q_nth, s_ri, s_riO, s_rb, s_rbO, s_rzO, s_rl, s_rlO, s_rq, s_rqO, s_ry, s_ryO, s_dn, s_tl, s_tn, s_ap, s_an, s_ci, s_cr, s_ni, s_n0, s_n1, q_ags, q_cat, List.contains_nil, List.contains_cons, Nat.reduceBEq, Bool.or_false, Bool.false_or, Bool.true_or, Bool.false_eq_true, ↓reduceIte, Nat.le_refl, Nat.zero_le, true_and, and_true, Nat.reduceLeDiff, Nat.reduceAdd, Nat.add_zero, Nat.zero_add, List.length_cons, List.length_nil, List.set_cons_zero, List.set_cons_succ, Nat.reduceLT, s_fi, s_fl, s_fo, s_fa, s_f0, s_f1, s_set, s_ss, lg_cmp_ge, lg_cmp_le, lg_cmp_gt, lg_cmp_lt, lg_cmp_eq, s_brT, s_brF, s_10, w_Pa_readFactors, r_Pa_readFactors, l_Pa_readFactors_0, l_Pa_readFactors_56, l_Pa_readFactors_92, l_Pa_readFactors_150, ks_16384, f_5_60, ty_5_5, kc_0, f_5_63, ty_5_6, f_5_66, ty_5_7, f_5_69, ty_5_8, kb_8, ml_5_53, w_Pa_has, f_5_14, ml_5_24, w_Cu_u16, kb_64, ks_128, P1', C1']
    refine q_c0 (Nat.le_refl _) (Nat.le_refl _) ?_
    refine c_Cu_u16 C1 (gB _ t1) he (by omega) (fun hl0 => ?_) (fun hl0 => ?_)
    · simp -implicitDefEqProofs only [s_go, s_nil, s_cons, q_ins, s_op, s_i, s_j, s_a, s_v, s_li, s_lj, s_la, s_liO, s_ljO, s_laO, q_get, q_p1, q_p2, s_n2i, s_n2r, s_n2l, s_n2n, q_pad, q_ar, s_ob, s_obO, q_nth, s_ri, s_riO, s_rb, s_rbO, s_rzO, s_rl, s_rlO, s_rq, s_rqO, s_ry, s_ryO, s_dn, s_tl, s_tn, s_ap, s_an, s_ci, s_cr, s_ni, s_n0, s_n1, q_ags, q_cat, List.contains_nil, List.contains_cons, Nat.reduceBEq, Bool.or_false, Bool.false_or, Bool.true_or, Bool.false_eq_true, ↓reduceIte, Nat.le_refl, Nat.zero_le, true_and, and_true, Nat.reduceLeDiff, Nat.reduceAdd, Nat.add_zero, Nat.zero_add, List.length_cons, List.length_nil, List.set_cons_zero, List.set_cons_succ, Nat.reduceLT, s_fi, s_fl, s_fo, s_fa, s_f0, s_f1, s_set, s_ss, lg_cmp_ge, lg_cmp_le, lg_cmp_gt, lg_cmp_lt, lg_cmp_eq, s_brT, s_brF, s_10, w_Pa_readFactors, r_Pa_readFactors, l_Pa_readFactors_0, l_Pa_readFactors_56, l_Pa_readFactors_92, l_Pa_readFactors_150, ks_16384, f_5_60, ty_5_5, kc_0, f_5_63, ty_5_6, f_5_66, ty_5_7, f_5_69, ty_5_8, kb_8, ml_5_53, w_Pa_has, f_5_14, ml_5_24, w_Cu_u16, kb_64, ks_128, P1', C1', s_ne _ _ hoc, s_ne _ _ hoc.symm, e_Cu]
      refine q_c0 (Nat.le_refl _) (Nat.le_refl _) ?_
      generalize hh_h1o : q_set (q_set h1 cu _) o _ = h1o
      have t_h1o : q_2 h h1o o cu := j1 (j2 t1 rfl) hh_h1o.symm
      have P_h1o : h1o o = some (e_Pa cu (nI fl) ch p0 q0 (iI (S16 (w2 F p))) (iI 0) (iI 0) (iI 16384)) := by rw [← hh_h1o, s_set, q_s16' (w2_lt hF (p))]; rfl
      have C_h1o : q_Cu h1o cu f (p + 2) e ro := by unfold q_Cu; rw [← hh_h1o, s_ne _ _ hoc.symm, s_set]
      have P_h1o' := P_h1o
      unfold e_Pa at P_h1o'
      have C_h1o' : h1o cu = some (.inr (2, [.ref f, .int (nI (p + 2)), .int (nI e), .int ro])) := C_h1o
      refine c_Cu_u16 C_h1o (gB _ t_h1o) he (by omega) (fun hl1 => ?_) (fun hl1 => ?_)
      · simp -implicitDefEqProofs only [s_go, s_nil, s_cons, q_ins, s_op, s_i, s_j, s_a, s_v, s_li, s_lj, s_la, s_liO, s_ljO, s_laO, q_get, q_p1, q_p2, s_n2i, s_n2r, s_n2l, s_n2n, q_pad, q_ar, s_ob, s_obO, q_nth, s_ri, s_riO, s_rb, s_rbO, s_rzO, s_rl, s_rlO, s_rq, s_rqO, s_ry, s_ryO, s_dn, s_tl, s_tn, s_ap, s_an, s_ci, s_cr, s_ni, s_n0, s_n1, q_ags, q_cat, List.contains_nil, List.contains_cons, Nat.reduceBEq, Bool.or_false, Bool.false_or, Bool.true_or, Bool.false_eq_true, ↓reduceIte, Nat.le_refl, Nat.zero_le, true_and, and_true, Nat.reduceLeDiff, Nat.reduceAdd, Nat.add_zero, Nat.zero_add, List.length_cons, List.length_nil, List.set_cons_zero, List.set_cons_succ, Nat.reduceLT, s_fi, s_fl, s_fo, s_fa, s_f0, s_f1, s_set, s_ss, lg_cmp_ge, lg_cmp_le, lg_cmp_gt, lg_cmp_lt, lg_cmp_eq, s_brT, s_brF, s_10, w_Pa_readFactors, r_Pa_readFactors, l_Pa_readFactors_0, l_Pa_readFactors_56, l_Pa_readFactors_92, l_Pa_readFactors_150, ks_16384, f_5_60, ty_5_5, kc_0, f_5_63, ty_5_6, f_5_66, ty_5_7, f_5_69, ty_5_8, kb_8, ml_5_53, w_Pa_has, f_5_14, ml_5_24, w_Cu_u16, kb_64, ks_128, P_h1o', C_h1o', s_ne _ _ hoc, s_ne _ _ hoc.symm, e_Cu]
        refine q_c0 (Nat.le_refl _) (Nat.le_refl _) ?_
        generalize hh_h1oo : q_set (q_set h1o cu _) o _ = h1oo
        have t_h1oo : q_2 h h1oo o cu := j1 (j2 t_h1o rfl) hh_h1oo.symm
        have P_h1oo : h1oo o = some (e_Pa cu (nI fl) ch p0 q0 (iI (S16 (w2 F p))) (iI (S16 (w2 F (p + 2)))) (iI 0) (iI 16384)) := by rw [← hh_h1oo, s_set, q_s16' (w2_lt hF (p + 2))]; rfl
        have C_h1oo : q_Cu h1oo cu f (p + 4) e ro := by unfold q_Cu; rw [← hh_h1oo, s_ne _ _ hoc.symm, s_set]
        have P_h1oo' := P_h1oo
        unfold e_Pa at P_h1oo'
        have C_h1oo' : h1oo cu = some (.inr (2, [.ref f, .int (nI (p + 4)), .int (nI e), .int ro])) := C_h1oo
        refine c_Cu_u16 C_h1oo (gB _ t_h1oo) he (by omega) (fun hl2 => ?_) (fun hl2 => ?_)
        · simp -implicitDefEqProofs only [s_go, s_nil, s_cons, q_ins, s_op, s_i, s_j, s_a, s_v, s_li, s_lj, s_la, s_liO, s_ljO, s_laO, q_get, q_p1, q_p2, s_n2i, s_n2r, s_n2l, s_n2n, q_pad, q_ar, s_ob, s_obO, q_nth, s_ri, s_riO, s_rb, s_rbO, s_rzO, s_rl, s_rlO, s_rq, s_rqO, s_ry, s_ryO, s_dn, s_tl, s_tn, s_ap, s_an, s_ci, s_cr, s_ni, s_n0, s_n1, q_ags, q_cat, List.contains_nil, List.contains_cons, Nat.reduceBEq, Bool.or_false, Bool.false_or, Bool.true_or, Bool.false_eq_true, ↓reduceIte, Nat.le_refl, Nat.zero_le, true_and, and_true, Nat.reduceLeDiff, Nat.reduceAdd, Nat.add_zero, Nat.zero_add, List.length_cons, List.length_nil, List.set_cons_zero, List.set_cons_succ, Nat.reduceLT, s_fi, s_fl, s_fo, s_fa, s_f0, s_f1, s_set, s_ss, lg_cmp_ge, lg_cmp_le, lg_cmp_gt, lg_cmp_lt, lg_cmp_eq, s_brT, s_brF, s_10, w_Pa_readFactors, r_Pa_readFactors, l_Pa_readFactors_0, l_Pa_readFactors_56, l_Pa_readFactors_92, l_Pa_readFactors_150, ks_16384, f_5_60, ty_5_5, kc_0, f_5_63, ty_5_6, f_5_66, ty_5_7, f_5_69, ty_5_8, kb_8, ml_5_53, w_Pa_has, f_5_14, ml_5_24, w_Cu_u16, kb_64, ks_128, P_h1oo', C_h1oo', s_ne _ _ hoc, s_ne _ _ hoc.symm, e_Cu]
          refine q_c0 (Nat.le_refl _) (Nat.le_refl _) ?_
          generalize hh_h1ooo : q_set (q_set h1oo cu _) o _ = h1ooo
          have t_h1ooo : q_2 h h1ooo o cu := j1 (j2 t_h1oo rfl) hh_h1ooo.symm
          have P_h1ooo : h1ooo o = some (e_Pa cu (nI fl) ch p0 q0 (iI (S16 (w2 F p))) (iI (S16 (w2 F (p + 2)))) (iI (S16 (w2 F (p + 4)))) (iI 16384)) := by rw [← hh_h1ooo, s_set, q_s16' (w2_lt hF (p + 4))]; rfl
          have C_h1ooo : q_Cu h1ooo cu f (p + 6) e ro := by unfold q_Cu; rw [← hh_h1ooo, s_ne _ _ hoc.symm, s_set]
          have P_h1ooo' := P_h1ooo
          unfold e_Pa at P_h1ooo'
          have C_h1ooo' : h1ooo cu = some (.inr (2, [.ref f, .int (nI (p + 6)), .int (nI e), .int ro])) := C_h1ooo
          refine c_Cu_u16 C_h1ooo (gB _ t_h1ooo) he (by omega) (fun hl3 => ?_) (fun hl3 => ?_)
          · simp -implicitDefEqProofs only [s_go, s_nil, s_cons, q_ins, s_op, s_i, s_j, s_a, s_v, s_li, s_lj, s_la, s_liO, s_ljO, s_laO, q_get, q_p1, q_p2, s_n2i, s_n2r, s_n2l, s_n2n, q_pad, q_ar, s_ob, s_obO, q_nth, s_ri, s_riO, s_rb, s_rbO, s_rzO, s_rl, s_rlO, s_rq, s_rqO, s_ry, s_ryO, s_dn, s_tl, s_tn, s_ap, s_an, s_ci, s_cr, s_ni, s_n0, s_n1, q_ags, q_cat, List.contains_nil, List.contains_cons, Nat.reduceBEq, Bool.or_false, Bool.false_or, Bool.true_or, Bool.false_eq_true, ↓reduceIte, Nat.le_refl, Nat.zero_le, true_and, and_true, Nat.reduceLeDiff, Nat.reduceAdd, Nat.add_zero, Nat.zero_add, List.length_cons, List.length_nil, List.set_cons_zero, List.set_cons_succ, Nat.reduceLT, s_fi, s_fl, s_fo, s_fa, s_f0, s_f1, s_set, s_ss, lg_cmp_ge, lg_cmp_le, lg_cmp_gt, lg_cmp_lt, lg_cmp_eq, s_brT, s_brF, s_10, w_Pa_readFactors, r_Pa_readFactors, l_Pa_readFactors_0, l_Pa_readFactors_56, l_Pa_readFactors_92, l_Pa_readFactors_150, ks_16384, f_5_60, ty_5_5, kc_0, f_5_63, ty_5_6, f_5_66, ty_5_7, f_5_69, ty_5_8, kb_8, ml_5_53, w_Pa_has, f_5_14, ml_5_24, w_Cu_u16, kb_64, ks_128, P_h1ooo', C_h1ooo', s_ne _ _ hoc, s_ne _ _ hoc.symm, e_Cu]
            refine q1 (by omega) _ (j1 (j2 t_h1ooo rfl) rfl) ?_ ?_
            · rw [s_set, q_s16' (w2_lt hF (p + 6))]; rfl
            · unfold q_Cu; rw [s_ne _ _ hoc.symm, s_set]
          · simp -implicitDefEqProofs only [s_go, s_nil, s_cons, q_ins, s_op, s_i, s_j, s_a, s_v, s_li, s_lj, s_la, s_liO, s_ljO, s_laO, q_get, q_p1, q_p2, s_n2i, s_n2r, s_n2l, s_n2n, q_pad, q_ar, s_ob, s_obO, q_nth, s_ri, s_riO, s_rb, s_rbO, s_rzO, s_rl, s_rlO, s_rq, s_rqO, s_ry, s_ryO, s_dn, s_tl, s_tn, s_ap, s_an, s_ci, s_cr, s_ni, s_n0, s_n1, q_ags, q_cat, List.contains_nil, List.contains_cons, Nat.reduceBEq, Bool.or_false, Bool.false_or, Bool.true_or, Bool.false_eq_true, ↓reduceIte, Nat.le_refl, Nat.zero_le, true_and, and_true, Nat.reduceLeDiff, Nat.reduceAdd, Nat.add_zero, Nat.zero_add, List.length_cons, List.length_nil, List.set_cons_zero, List.set_cons_succ, Nat.reduceLT, s_fi, s_fl, s_fo, s_fa, s_f0, s_f1, s_set, s_ss, lg_cmp_ge, lg_cmp_le, lg_cmp_gt, lg_cmp_lt, lg_cmp_eq, s_brT, s_brF, s_10, w_Pa_readFactors, r_Pa_readFactors, l_Pa_readFactors_0, l_Pa_readFactors_56, l_Pa_readFactors_92, l_Pa_readFactors_150, ks_16384, f_5_60, ty_5_5, kc_0, f_5_63, ty_5_6, f_5_66, ty_5_7, f_5_69, ty_5_8, kb_8, ml_5_53, w_Pa_has, f_5_14, ml_5_24, w_Cu_u16, kb_64, ks_128, P_h1ooo', C_h1ooo', s_ne _ _ hoc, s_ne _ _ hoc.symm, e_Cu]
            refine q2 (by omega) _ _ _ _ _ (p + 6) (j1 (j2 t_h1ooo rfl) rfl) (s_set _ _ _) ?_
            unfold q_Cu; rw [s_ne _ _ hoc.symm, s_set]
        · simp -implicitDefEqProofs only [s_go, s_nil, s_cons, q_ins, s_op, s_i, s_j, s_a, s_v, s_li, s_lj, s_la, s_liO, s_ljO, s_laO, q_get, q_p1, q_p2, s_n2i, s_n2r, s_n2l, s_n2n, q_pad, q_ar, s_ob, s_obO, q_nth, s_ri, s_riO, s_rb, s_rbO, s_rzO, s_rl, s_rlO, s_rq, s_rqO, s_ry, s_ryO, s_dn, s_tl, s_tn, s_ap, s_an, s_ci, s_cr, s_ni, s_n0, s_n1, q_ags, q_cat, List.contains_nil, List.contains_cons, Nat.reduceBEq, Bool.or_false, Bool.false_or, Bool.true_or, Bool.false_eq_true, ↓reduceIte, Nat.le_refl, Nat.zero_le, true_and, and_true, Nat.reduceLeDiff, Nat.reduceAdd, Nat.add_zero, Nat.zero_add, List.length_cons, List.length_nil, List.set_cons_zero, List.set_cons_succ, Nat.reduceLT, s_fi, s_fl, s_fo, s_fa, s_f0, s_f1, s_set, s_ss, lg_cmp_ge, lg_cmp_le, lg_cmp_gt, lg_cmp_lt, lg_cmp_eq, s_brT, s_brF, s_10, w_Pa_readFactors, r_Pa_readFactors, l_Pa_readFactors_0, l_Pa_readFactors_56, l_Pa_readFactors_92, l_Pa_readFactors_150, ks_16384, f_5_60, ty_5_5, kc_0, f_5_63, ty_5_6, f_5_66, ty_5_7, f_5_69, ty_5_8, kb_8, ml_5_53, w_Pa_has, f_5_14, ml_5_24, w_Cu_u16, kb_64, ks_128, P_h1oo', C_h1oo', s_ne _ _ hoc, s_ne _ _ hoc.symm, e_Cu]
          refine q_c0 (Nat.le_refl _) (Nat.le_refl _) ?_
          generalize hh_h1oox : q_set (q_set h1oo cu _) o _ = h1oox
          have t_h1oox : q_2 h h1oox o cu := j1 (j2 t_h1oo rfl) hh_h1oox.symm
          have P_h1oox : h1oox o = some (e_Pa cu (nI fl) ch p0 q0 (iI (S16 (w2 F p))) (iI (S16 (w2 F (p + 2)))) (0 : Int32).toInt16.toInt32 (iI 16384)) := by rw [← hh_h1oox]; exact s_set _ _ _
          have C_h1oox : q_Cu h1oox cu f (p + 4) e 1 := by unfold q_Cu; rw [← hh_h1oox, s_ne _ _ hoc.symm, s_set]
          have P_h1oox' := P_h1oox
          unfold e_Pa at P_h1oox'
          have C_h1oox' : h1oox cu = some (.inr (2, [.ref f, .int (nI (p + 4)), .int (nI e), .int 1])) := C_h1oox
          refine c_Cu_u16 C_h1oox (gB _ t_h1oox) he (by omega) (fun z => absurd z (by omega)) (fun z => ?_)
          simp -implicitDefEqProofs only [s_go, s_nil, s_cons, q_ins, s_op, s_i, s_j, s_a, s_v, s_li, s_lj, s_la, s_liO, s_ljO, s_laO, q_get, q_p1, q_p2, s_n2i, s_n2r, s_n2l, s_n2n, q_pad, q_ar, s_ob, s_obO, q_nth, s_ri, s_riO, s_rb, s_rbO, s_rzO, s_rl, s_rlO, s_rq, s_rqO, s_ry, s_ryO, s_dn, s_tl, s_tn, s_ap, s_an, s_ci, s_cr, s_ni, s_n0, s_n1, q_ags, q_cat, List.contains_nil, List.contains_cons, Nat.reduceBEq, Bool.or_false, Bool.false_or, Bool.true_or, Bool.false_eq_true, ↓reduceIte, Nat.le_refl, Nat.zero_le, true_and, and_true, Nat.reduceLeDiff, Nat.reduceAdd, Nat.add_zero, Nat.zero_add, List.length_cons, List.length_nil, List.set_cons_zero, List.set_cons_succ, Nat.reduceLT, s_fi, s_fl, s_fo, s_fa, s_f0, s_f1, s_set, s_ss, lg_cmp_ge, lg_cmp_le, lg_cmp_gt, lg_cmp_lt, lg_cmp_eq, s_brT, s_brF, s_10, w_Pa_readFactors, r_Pa_readFactors, l_Pa_readFactors_0, l_Pa_readFactors_56, l_Pa_readFactors_92, l_Pa_readFactors_150, ks_16384, f_5_60, ty_5_5, kc_0, f_5_63, ty_5_6, f_5_66, ty_5_7, f_5_69, ty_5_8, kb_8, ml_5_53, w_Pa_has, f_5_14, ml_5_24, w_Cu_u16, kb_64, ks_128, P_h1oox', C_h1oox', s_ne _ _ hoc, s_ne _ _ hoc.symm, e_Cu]
          refine q2 (by omega) _ _ _ _ _ (p + 4) (j1 (j2 t_h1oox rfl) rfl) (s_set _ _ _) ?_
          unfold q_Cu; rw [s_ne _ _ hoc.symm, s_set]
      · simp -implicitDefEqProofs only [s_go, s_nil, s_cons, q_ins, s_op, s_i, s_j, s_a, s_v, s_li, s_lj, s_la, s_liO, s_ljO, s_laO, q_get, q_p1, q_p2, s_n2i, s_n2r, s_n2l, s_n2n, q_pad, q_ar, s_ob, s_obO, q_nth, s_ri, s_riO, s_rb, s_rbO, s_rzO, s_rl, s_rlO, s_rq, s_rqO, s_ry, s_ryO, s_dn, s_tl, s_tn, s_ap, s_an, s_ci, s_cr, s_ni, s_n0, s_n1, q_ags, q_cat, List.contains_nil, List.contains_cons, Nat.reduceBEq, Bool.or_false, Bool.false_or, Bool.true_or, Bool.false_eq_true, ↓reduceIte, Nat.le_refl, Nat.zero_le, true_and, and_true, Nat.reduceLeDiff, Nat.reduceAdd, Nat.add_zero, Nat.zero_add, List.length_cons, List.length_nil, List.set_cons_zero, List.set_cons_succ, Nat.reduceLT, s_fi, s_fl, s_fo, s_fa, s_f0, s_f1, s_set, s_ss, lg_cmp_ge, lg_cmp_le, lg_cmp_gt, lg_cmp_lt, lg_cmp_eq, s_brT, s_brF, s_10, w_Pa_readFactors, r_Pa_readFactors, l_Pa_readFactors_0, l_Pa_readFactors_56, l_Pa_readFactors_92, l_Pa_readFactors_150, ks_16384, f_5_60, ty_5_5, kc_0, f_5_63, ty_5_6, f_5_66, ty_5_7, f_5_69, ty_5_8, kb_8, ml_5_53, w_Pa_has, f_5_14, ml_5_24, w_Cu_u16, kb_64, ks_128, P_h1o', C_h1o', s_ne _ _ hoc, s_ne _ _ hoc.symm, e_Cu]
        refine q_c0 (Nat.le_refl _) (Nat.le_refl _) ?_
        generalize hh_h1ox : q_set (q_set h1o cu _) o _ = h1ox
        have t_h1ox : q_2 h h1ox o cu := j1 (j2 t_h1o rfl) hh_h1ox.symm
        have P_h1ox : h1ox o = some (e_Pa cu (nI fl) ch p0 q0 (iI (S16 (w2 F p))) (0 : Int32).toInt16.toInt32 (iI 0) (iI 16384)) := by rw [← hh_h1ox]; exact s_set _ _ _
        have C_h1ox : q_Cu h1ox cu f (p + 2) e 1 := by unfold q_Cu; rw [← hh_h1ox, s_ne _ _ hoc.symm, s_set]
        have P_h1ox' := P_h1ox
        unfold e_Pa at P_h1ox'
        have C_h1ox' : h1ox cu = some (.inr (2, [.ref f, .int (nI (p + 2)), .int (nI e), .int 1])) := C_h1ox
        refine c_Cu_u16 C_h1ox (gB _ t_h1ox) he (by omega) (fun z => absurd z (by omega)) (fun z => ?_)
        simp -implicitDefEqProofs only [s_go, s_nil, s_cons, q_ins, s_op, s_i, s_j, s_a, s_v, s_li, s_lj, s_la, s_liO, s_ljO, s_laO, q_get, q_p1, q_p2, s_n2i, s_n2r, s_n2l, s_n2n, q_pad, q_ar, s_ob, s_obO, q_nth, s_ri, s_riO, s_rb, s_rbO, s_rzO, s_rl, s_rlO, s_rq, s_rqO, s_ry, s_ryO, s_dn, s_tl, s_tn, s_ap, s_an, s_ci, s_cr, s_ni, s_n0, s_n1, q_ags, q_cat, List.contains_nil, List.contains_cons, Nat.reduceBEq, Bool.or_false, Bool.false_or, Bool.true_or, Bool.false_eq_true, ↓reduceIte, Nat.le_refl, Nat.zero_le, true_and, and_true, Nat.reduceLeDiff, Nat.reduceAdd, Nat.add_zero, Nat.zero_add, List.length_cons, List.length_nil, List.set_cons_zero, List.set_cons_succ, Nat.reduceLT, s_fi, s_fl, s_fo, s_fa, s_f0, s_f1, s_set, s_ss, lg_cmp_ge, lg_cmp_le, lg_cmp_gt, lg_cmp_lt, lg_cmp_eq, s_brT, s_brF, s_10, w_Pa_readFactors, r_Pa_readFactors, l_Pa_readFactors_0, l_Pa_readFactors_56, l_Pa_readFactors_92, l_Pa_readFactors_150, ks_16384, f_5_60, ty_5_5, kc_0, f_5_63, ty_5_6, f_5_66, ty_5_7, f_5_69, ty_5_8, kb_8, ml_5_53, w_Pa_has, f_5_14, ml_5_24, w_Cu_u16, kb_64, ks_128, P_h1ox', C_h1ox', s_ne _ _ hoc, s_ne _ _ hoc.symm, e_Cu]
        refine q_c0 (Nat.le_refl _) (Nat.le_refl _) ?_
        generalize hh_h1oxx : q_set (q_set h1ox cu _) o _ = h1oxx
        have t_h1oxx : q_2 h h1oxx o cu := j1 (j2 t_h1ox rfl) hh_h1oxx.symm
        have P_h1oxx : h1oxx o = some (e_Pa cu (nI fl) ch p0 q0 (iI (S16 (w2 F p))) (0 : Int32).toInt16.toInt32 (0 : Int32).toInt16.toInt32 (iI 16384)) := by rw [← hh_h1oxx]; exact s_set _ _ _
        have C_h1oxx : q_Cu h1oxx cu f (p + 2) e 1 := by unfold q_Cu; rw [← hh_h1oxx, s_ne _ _ hoc.symm, s_set]
        have P_h1oxx' := P_h1oxx
        unfold e_Pa at P_h1oxx'
        have C_h1oxx' : h1oxx cu = some (.inr (2, [.ref f, .int (nI (p + 2)), .int (nI e), .int 1])) := C_h1oxx
        refine c_Cu_u16 C_h1oxx (gB _ t_h1oxx) he (by omega) (fun z => absurd z (by omega)) (fun z => ?_)
        simp -implicitDefEqProofs only [s_go, s_nil, s_cons, q_ins, s_op, s_i, s_j, s_a, s_v, s_li, s_lj, s_la, s_liO, s_ljO, s_laO, q_get, q_p1, q_p2, s_n2i, s_n2r, s_n2l, s_n2n, q_pad, q_ar, s_ob, s_obO, q_nth, s_ri, s_riO, s_rb, s_rbO, s_rzO, s_rl, s_rlO, s_rq, s_rqO, s_ry, s_ryO, s_dn, s_tl, s_tn, s_ap, s_an, s_ci, s_cr, s_ni, s_n0, s_n1, q_ags, q_cat, List.contains_nil, List.contains_cons, Nat.reduceBEq, Bool.or_false, Bool.false_or, Bool.true_or, Bool.false_eq_true, ↓reduceIte, Nat.le_refl, Nat.zero_le, true_and, and_true, Nat.reduceLeDiff, Nat.reduceAdd, Nat.add_zero, Nat.zero_add, List.length_cons, List.length_nil, List.set_cons_zero, List.set_cons_succ, Nat.reduceLT, s_fi, s_fl, s_fo, s_fa, s_f0, s_f1, s_set, s_ss, lg_cmp_ge, lg_cmp_le, lg_cmp_gt, lg_cmp_lt, lg_cmp_eq, s_brT, s_brF, s_10, w_Pa_readFactors, r_Pa_readFactors, l_Pa_readFactors_0, l_Pa_readFactors_56, l_Pa_readFactors_92, l_Pa_readFactors_150, ks_16384, f_5_60, ty_5_5, kc_0, f_5_63, ty_5_6, f_5_66, ty_5_7, f_5_69, ty_5_8, kb_8, ml_5_53, w_Pa_has, f_5_14, ml_5_24, w_Cu_u16, kb_64, ks_128, P_h1oxx', C_h1oxx', s_ne _ _ hoc, s_ne _ _ hoc.symm, e_Cu]
        refine q2 (by omega) _ _ _ _ _ (p + 2) (j1 (j2 t_h1oxx rfl) rfl) (s_set _ _ _) ?_
        unfold q_Cu; rw [s_ne _ _ hoc.symm, s_set]
    · simp -implicitDefEqProofs only [s_go, s_nil, s_cons, q_ins, s_op, s_i, s_j, s_a, s_v, s_li, s_lj, s_la, s_liO, s_ljO, s_laO, q_get, q_p1, q_p2, s_n2i, s_n2r, s_n2l, s_n2n, q_pad, q_ar, s_ob, s_obO, q_nth, s_ri, s_riO, s_rb, s_rbO, s_rzO, s_rl, s_rlO, s_rq, s_rqO, s_ry, s_ryO, s_dn, s_tl, s_tn, s_ap, s_an, s_ci, s_cr, s_ni, s_n0, s_n1, q_ags, q_cat, List.contains_nil, List.contains_cons, Nat.reduceBEq, Bool.or_false, Bool.false_or, Bool.true_or, Bool.false_eq_true, ↓reduceIte, Nat.le_refl, Nat.zero_le, true_and, and_true, Nat.reduceLeDiff, Nat.reduceAdd, Nat.add_zero, Nat.zero_add, List.length_cons, List.length_nil, List.set_cons_zero, List.set_cons_succ, Nat.reduceLT, s_fi, s_fl, s_fo, s_fa, s_f0, s_f1, s_set, s_ss, lg_cmp_ge, lg_cmp_le, lg_cmp_gt, lg_cmp_lt, lg_cmp_eq, s_brT, s_brF, s_10, w_Pa_readFactors, r_Pa_readFactors, l_Pa_readFactors_0, l_Pa_readFactors_56, l_Pa_readFactors_92, l_Pa_readFactors_150, ks_16384, f_5_60, ty_5_5, kc_0, f_5_63, ty_5_6, f_5_66, ty_5_7, f_5_69, ty_5_8, kb_8, ml_5_53, w_Pa_has, f_5_14, ml_5_24, w_Cu_u16, kb_64, ks_128, P1', C1', s_ne _ _ hoc, s_ne _ _ hoc.symm, e_Cu]
      refine q_c0 (Nat.le_refl _) (Nat.le_refl _) ?_
      generalize hh_h1x : q_set (q_set h1 cu _) o _ = h1x
      have t_h1x : q_2 h h1x o cu := j1 (j2 t1 rfl) hh_h1x.symm
      have P_h1x : h1x o = some (e_Pa cu (nI fl) ch p0 q0 (0 : Int32).toInt16.toInt32 (iI 0) (iI 0) (iI 16384)) := by rw [← hh_h1x]; exact s_set _ _ _
      have C_h1x : q_Cu h1x cu f (p) e 1 := by unfold q_Cu; rw [← hh_h1x, s_ne _ _ hoc.symm, s_set]
      have P_h1x' := P_h1x
      unfold e_Pa at P_h1x'
      have C_h1x' : h1x cu = some (.inr (2, [.ref f, .int (nI (p)), .int (nI e), .int 1])) := C_h1x
      refine c_Cu_u16 C_h1x (gB _ t_h1x) he (by omega) (fun z => absurd z (by omega)) (fun z => ?_)
      simp -implicitDefEqProofs only [s_go, s_nil, s_cons, q_ins, s_op, s_i, s_j, s_a, s_v, s_li, s_lj, s_la, s_liO, s_ljO, s_laO, q_get, q_p1, q_p2, s_n2i, s_n2r, s_n2l, s_n2n, q_pad, q_ar, s_ob, s_obO, q_nth, s_ri, s_riO, s_rb, s_rbO, s_rzO, s_rl, s_rlO, s_rq, s_rqO, s_ry, s_ryO, s_dn, s_tl, s_tn, s_ap, s_an, s_ci, s_cr, s_ni, s_n0, s_n1, q_ags, q_cat, List.contains_nil, List.contains_cons, Nat.reduceBEq, Bool.or_false, Bool.false_or, Bool.true_or, Bool.false_eq_true, ↓reduceIte, Nat.le_refl, Nat.zero_le, true_and, and_true, Nat.reduceLeDiff, Nat.reduceAdd, Nat.add_zero, Nat.zero_add, List.length_cons, List.length_nil, List.set_cons_zero, List.set_cons_succ, Nat.reduceLT, s_fi, s_fl, s_fo, s_fa, s_f0, s_f1, s_set, s_ss, lg_cmp_ge, lg_cmp_le, lg_cmp_gt, lg_cmp_lt, lg_cmp_eq, s_brT, s_brF, s_10, w_Pa_readFactors, r_Pa_readFactors, l_Pa_readFactors_0, l_Pa_readFactors_56, l_Pa_readFactors_92, l_Pa_readFactors_150, ks_16384, f_5_60, ty_5_5, kc_0, f_5_63, ty_5_6, f_5_66, ty_5_7, f_5_69, ty_5_8, kb_8, ml_5_53, w_Pa_has, f_5_14, ml_5_24, w_Cu_u16, kb_64, ks_128, P_h1x', C_h1x', s_ne _ _ hoc, s_ne _ _ hoc.symm, e_Cu]
      refine q_c0 (Nat.le_refl _) (Nat.le_refl _) ?_
      generalize hh_h1xx : q_set (q_set h1x cu _) o _ = h1xx
      have t_h1xx : q_2 h h1xx o cu := j1 (j2 t_h1x rfl) hh_h1xx.symm
      have P_h1xx : h1xx o = some (e_Pa cu (nI fl) ch p0 q0 (0 : Int32).toInt16.toInt32 (0 : Int32).toInt16.toInt32 (iI 0) (iI 16384)) := by rw [← hh_h1xx]; exact s_set _ _ _
      have C_h1xx : q_Cu h1xx cu f (p) e 1 := by unfold q_Cu; rw [← hh_h1xx, s_ne _ _ hoc.symm, s_set]
      have P_h1xx' := P_h1xx
      unfold e_Pa at P_h1xx'
      have C_h1xx' : h1xx cu = some (.inr (2, [.ref f, .int (nI (p)), .int (nI e), .int 1])) := C_h1xx
      refine c_Cu_u16 C_h1xx (gB _ t_h1xx) he (by omega) (fun z => absurd z (by omega)) (fun z => ?_)
      simp -implicitDefEqProofs only [s_go, s_nil, s_cons, q_ins, s_op, s_i, s_j, s_a, s_v, s_li, s_lj, s_la, s_liO, s_ljO, s_laO, q_get, q_p1, q_p2, s_n2i, s_n2r, s_n2l, s_n2n, q_pad, q_ar, s_ob, s_obO, q_nth, s_ri, s_riO, s_rb, s_rbO, s_rzO, s_rl, s_rlO, s_rq, s_rqO, s_ry, s_ryO, s_dn, s_tl, s_tn, s_ap, s_an, s_ci, s_cr, s_ni, s_n0, s_n1, q_ags, q_cat, List.contains_nil, List.contains_cons, Nat.reduceBEq, Bool.or_false, Bool.false_or, Bool.true_or, Bool.false_eq_true, ↓reduceIte, Nat.le_refl, Nat.zero_le, true_and, and_true, Nat.reduceLeDiff, Nat.reduceAdd, Nat.add_zero, Nat.zero_add, List.length_cons, List.length_nil, List.set_cons_zero, List.set_cons_succ, Nat.reduceLT, s_fi, s_fl, s_fo, s_fa, s_f0, s_f1, s_set, s_ss, lg_cmp_ge, lg_cmp_le, lg_cmp_gt, lg_cmp_lt, lg_cmp_eq, s_brT, s_brF, s_10, w_Pa_readFactors, r_Pa_readFactors, l_Pa_readFactors_0, l_Pa_readFactors_56, l_Pa_readFactors_92, l_Pa_readFactors_150, ks_16384, f_5_60, ty_5_5, kc_0, f_5_63, ty_5_6, f_5_66, ty_5_7, f_5_69, ty_5_8, kb_8, ml_5_53, w_Pa_has, f_5_14, ml_5_24, w_Cu_u16, kb_64, ks_128, P_h1xx', C_h1xx', s_ne _ _ hoc, s_ne _ _ hoc.symm, e_Cu]
      refine q_c0 (Nat.le_refl _) (Nat.le_refl _) ?_
      generalize hh_h1xxx : q_set (q_set h1xx cu _) o _ = h1xxx
      have t_h1xxx : q_2 h h1xxx o cu := j1 (j2 t_h1xx rfl) hh_h1xxx.symm
      have P_h1xxx : h1xxx o = some (e_Pa cu (nI fl) ch p0 q0 (0 : Int32).toInt16.toInt32 (0 : Int32).toInt16.toInt32 (0 : Int32).toInt16.toInt32 (iI 16384)) := by rw [← hh_h1xxx]; exact s_set _ _ _
      have C_h1xxx : q_Cu h1xxx cu f (p) e 1 := by unfold q_Cu; rw [← hh_h1xxx, s_ne _ _ hoc.symm, s_set]
      have P_h1xxx' := P_h1xxx
      unfold e_Pa at P_h1xxx'
      have C_h1xxx' : h1xxx cu = some (.inr (2, [.ref f, .int (nI (p)), .int (nI e), .int 1])) := C_h1xxx
      refine c_Cu_u16 C_h1xxx (gB _ t_h1xxx) he (by omega) (fun z => absurd z (by omega)) (fun z => ?_)
      simp -implicitDefEqProofs only [s_go, s_nil, s_cons, q_ins, s_op, s_i, s_j, s_a, s_v, s_li, s_lj, s_la, s_liO, s_ljO, s_laO, q_get, q_p1, q_p2, s_n2i, s_n2r, s_n2l, s_n2n, q_pad, q_ar, s_ob, s_obO, q_nth, s_ri, s_riO, s_rb, s_rbO, s_rzO, s_rl, s_rlO, s_rq, s_rqO, s_ry, s_ryO, s_dn, s_tl, s_tn, s_ap, s_an, s_ci, s_cr, s_ni, s_n0, s_n1, q_ags, q_cat, List.contains_nil, List.contains_cons, Nat.reduceBEq, Bool.or_false, Bool.false_or, Bool.true_or, Bool.false_eq_true, ↓reduceIte, Nat.le_refl, Nat.zero_le, true_and, and_true, Nat.reduceLeDiff, Nat.reduceAdd, Nat.add_zero, Nat.zero_add, List.length_cons, List.length_nil, List.set_cons_zero, List.set_cons_succ, Nat.reduceLT, s_fi, s_fl, s_fo, s_fa, s_f0, s_f1, s_set, s_ss, lg_cmp_ge, lg_cmp_le, lg_cmp_gt, lg_cmp_lt, lg_cmp_eq, s_brT, s_brF, s_10, w_Pa_readFactors, r_Pa_readFactors, l_Pa_readFactors_0, l_Pa_readFactors_56, l_Pa_readFactors_92, l_Pa_readFactors_150, ks_16384, f_5_60, ty_5_5, kc_0, f_5_63, ty_5_6, f_5_66, ty_5_7, f_5_69, ty_5_8, kb_8, ml_5_53, w_Pa_has, f_5_14, ml_5_24, w_Cu_u16, kb_64, ks_128, P_h1xxx', C_h1xxx', s_ne _ _ hoc, s_ne _ _ hoc.symm, e_Cu]
      refine q2 (by omega) _ _ _ _ _ (p) (j1 (j2 t_h1xxx rfl) rfl) (s_set _ _ _) ?_
      unfold q_Cu; rw [s_ne _ _ hoc.symm, s_set]
  · rw [if_neg b7] at q1 q2
    simp only [if_neg b7] at q1
    simp -implicitDefEqProofs only [s_go, s_nil, s_cons, q_ins, s_op, s_i, s_j, s_a, s_v, s_li, s_lj, s_la, s_liO, s_ljO, s_laO, q_get, q_p1, q_p2, s_n2i, s_n2r, s_n2l, s_n2n, q_pad, q_ar, s_ob, s_obO, q_nth, s_ri, s_riO, s_rb, s_rbO, s_rzO, s_rl, s_rlO, s_rq, s_rqO, s_ry, s_ryO, s_dn, s_tl, s_tn, s_ap, s_an, s_ci, s_cr, s_ni, s_n0, s_n1, q_ags, q_cat, List.contains_nil, List.contains_cons, Nat.reduceBEq, Bool.or_false, Bool.false_or, Bool.true_or, Bool.false_eq_true, ↓reduceIte, Nat.le_refl, Nat.zero_le, true_and, and_true, Nat.reduceLeDiff, Nat.reduceAdd, Nat.add_zero, Nat.zero_add, List.length_cons, List.length_nil, List.set_cons_zero, List.set_cons_succ, Nat.reduceLT, s_fi, s_fl, s_fo, s_fa, s_f0, s_f1, s_set, s_ss, lg_cmp_ge, lg_cmp_le, lg_cmp_gt, lg_cmp_lt, lg_cmp_eq, s_brT, s_brF, s_10, w_Pa_readFactors, r_Pa_readFactors, l_Pa_readFactors_0, l_Pa_readFactors_56, l_Pa_readFactors_92, l_Pa_readFactors_150, ks_16384, f_5_60, ty_5_5, kc_0, f_5_63, ty_5_6, f_5_66, ty_5_7, f_5_69, ty_5_8, kb_8, ml_5_53, w_Pa_has, f_5_14, ml_5_24, w_Cu_u16, kb_64, ks_128, P1', C1']
    exact q1 (by omega) _ t1 P1 C1
