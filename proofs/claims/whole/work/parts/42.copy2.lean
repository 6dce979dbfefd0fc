/-! Bytes.copy where the row grows -/
set_option maxRecDepth 100000 in
set_option maxHeartbeats 4000000 in
theorem c_By_copy1 {G : q_G} {l : Launch} {d f row m n sz f2 row2 m2 s2 : Nat} {g g2 : Nat → Int32} {F F2 : Nat → Nat} {h : q_H} {Q : q_P} (hB : q_By h f row m g sz F) (hD : q_By h f2 row2 m2 g2 s2 F2) (hne : f ≠ f2) (hs : m < s2) (hr : row < n) (hf : f < n) (hf2 : f2 < n) (hr2 : row2 < n) (q1 : ∀ h' g', q_2 h h' f n → q_By h' f n (RL m s2) g' s2 F2 → Q none h' (n + 1)) : q_Call G l M_By_copy (d + 3) 1 (RL m s2) [.ref f, .ref f2] h n Q := by
  have h1 := hB.1
  have h2 := hB.2.1
  have h3 := hD.1
  have h4 := hD.2.1
  have hmm := hB.2.2.2.1
  have hms := hD.2.2.1
  have hm2 := hD.2.2.2.1
  have hnr := hB.nr
  have n1 : f ≠ row2 := fun e => by rw [e, h4] at h1; cases h1
  refine q_in u_By_copy (by rw [L_By_copy]; exact Nat.le_of_ble_eq_true rfl) ?_
  rw [L_By_copy]
  refine q_at o_By_copy [] 20 l_By_copy_0 ?_
  simp -implicitDefEqProofs only [s_go, s_nil, s_cons, q_ins, s_op, s_i, s_j, s_a, s_v, s_li, s_lj, s_la, s_liO, s_ljO, s_laO, q_get, q_p1, q_p2, s_n2i, s_n2r, s_n2l, s_n2n, q_pad, q_ar, s_ob, s_obO, q_nth, s_ri, s_riO, s_rb, s_rbO, s_rzO, s_rl, s_rlO, s_rq, s_rqO, s_ry, s_ryO, s_dn, s_tl, s_tn, s_ap, s_an, s_ci, s_cr, s_ni, s_n0, s_n1, q_ags, q_cat, List.contains_nil, List.contains_cons, Nat.reduceBEq, Bool.or_false, Bool.false_or, Bool.true_or, Bool.false_eq_true, ↓reduceIte, Nat.le_refl, Nat.zero_le, true_and, and_true, Nat.reduceLeDiff, Nat.reduceAdd, Nat.add_zero, Nat.zero_add, List.length_cons, List.length_nil, List.set_cons_zero, List.set_cons_succ, Nat.reduceLT, s_fi, s_fl, s_fo, s_fa, s_f0, s_f1, s_set, s_ss, lg_cmp_ge, lg_cmp_le, lg_cmp_gt, lg_cmp_lt, lg_cmp_eq, s_brT, s_brF, s_10, w_By_copy, r_By_copy, l_By_copy_0, l_By_copy_45, f_0_15, ml_0_34, w_By_makeRoom, f_0_9, kc_0, ac_0_38, ty_0_1, h1, h2, h3, h4]
  refine q_c1 1 (RL m s2) (by omega) (by omega) ?_
  obtain ⟨r1, r2, r3⟩ := RL_b hs (by omega)
  refine c_By_room1 hB hs (by omega) hr hf (fun h' g' t B' => ?_)
  have h3' := (t f2 (fun e => hne e.symm) (by omega)).trans h3
  have h4' := (t row2 (fun e => n1 e.symm) (by omega)).trans h4
  have h1' := B'.1
  have h2' := B'.2.1
  have m1 : f ≠ n := by omega
  have m2 : f2 ≠ n := by omega
  simp -implicitDefEqProofs only [s_go, s_nil, s_cons, q_ins, s_op, s_i, s_j, s_a, s_v, s_li, s_lj, s_la, s_liO, s_ljO, s_laO, q_get, q_p1, q_p2, s_n2i, s_n2r, s_n2l, s_n2n, q_pad, q_ar, s_ob, s_obO, q_nth, s_ri, s_riO, s_rb, s_rbO, s_rzO, s_rl, s_rlO, s_rq, s_rqO, s_ry, s_ryO, s_dn, s_tl, s_tn, s_ap, s_an, s_ci, s_cr, s_ni, s_n0, s_n1, q_ags, q_cat, List.contains_nil, List.contains_cons, Nat.reduceBEq, Bool.or_false, Bool.false_or, Bool.true_or, Bool.false_eq_true, ↓reduceIte, Nat.le_refl, Nat.zero_le, true_and, and_true, Nat.reduceLeDiff, Nat.reduceAdd, Nat.add_zero, Nat.zero_add, List.length_cons, List.length_nil, List.set_cons_zero, List.set_cons_succ, Nat.reduceLT, s_fi, s_fl, s_fo, s_fa, s_f0, s_f1, s_set, s_ss, lg_cmp_ge, lg_cmp_le, lg_cmp_gt, lg_cmp_lt, lg_cmp_eq, s_brT, s_brF, s_10, w_By_copy, r_By_copy, l_By_copy_0, l_By_copy_45, f_0_15, ml_0_34, w_By_makeRoom, f_0_9, kc_0, ac_0_38, ty_0_1, h1', h2', h3', h4', s_ne _ _ m1, s_ne _ _ m2, nI_clamp (show s2 < 2 ^ 31 by omega), show Int32.toNatClampNeg 0 = 0 from rfl]
  refine ⟨fun z => absurd ((nI_ltI (by omega) (by omega)).mp z) (by omega), fun _ => ⟨by decide, by decide, nI_nlt (b := 0) (by omega) (by omega), hms, r2, fun i _ => hD.2.2.2.2.2.1 i, ?_⟩⟩
  refine q1 _ (va_cpy g2 g' 0 0 s2) (fun b b1 b2 => by rw [s_ne _ _ b1, s_ne _ _ b2]; exact t b b1 b2) ⟨s_set _ _ _, by rw [s_ne _ _ m1.symm]; exact s_set _ _ _, r2, r3, fun j hj => ?_, fun j => ?_, hD.2.2.2.2.2.2⟩
  · rw [pk_cpy_in (Nat.zero_le _) (by omega), show 0 + (j - 0) = j by omega]
    exact hD.2.2.2.2.1 j hj
  · rcases Nat.lt_or_ge j s2 with y | y
    · rw [pk_cpy_in (Nat.zero_le _) (by omega)]
      exact hD.2.2.2.2.2.1 _
    · rw [pk_cpy_out (Or.inr (by omega))]
      exact B'.2.2.2.2.2.1 j
