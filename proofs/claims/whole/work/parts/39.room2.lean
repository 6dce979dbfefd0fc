/-! Bytes.makeRoom -/
set_option maxRecDepth 100000 in
set_option maxHeartbeats 4000000 in
theorem c_By_room0 {G : q_G} {l : Launch} {d f row m n sz k : Nat} {g : Nat → Int32} {F : Nat → Nat} {h : q_H} {Q : q_P} (hB : q_By h f row m g sz F) (hk : k ≤ m) (q1 : Q none h n) : q_Call G l M_By_makeRoom d 0 0 [.ref f, .int (nI k)] h n Q := by
  have hs : m ≤ 16384 := hB.2.2.2.1
  have h1 := hB.1
  have h2 := hB.2.1
  refine q_in u_By_makeRoom (by rw [L_By_makeRoom]; exact Nat.le_of_ble_eq_true rfl) ?_
  rw [L_By_makeRoom]
  refine q_at o_By_makeRoom [] 20 l_By_makeRoom_0 ?_
  simp -implicitDefEqProofs only [s_go, s_nil, s_cons, q_ins, s_op, s_i, s_j, s_a, s_v, s_li, s_lj, s_la, s_liO, s_ljO, s_laO, q_get, q_p1, q_p2, s_n2i, s_n2r, s_n2l, s_n2n, q_pad, q_ar, s_ob, s_obO, q_nth, s_ri, s_riO, s_rb, s_rbO, s_rzO, s_rl, s_rlO, s_rq, s_rqO, s_ry, s_ryO, s_dn, s_tl, s_tn, s_ap, s_an, s_ci, s_cr, s_ni, s_n0, s_n1, q_ags, q_cat, List.contains_nil, List.contains_cons, Nat.reduceBEq, Bool.or_false, Bool.false_or, Bool.true_or, Bool.false_eq_true, ↓reduceIte, Nat.le_refl, Nat.zero_le, true_and, and_true, Nat.reduceLeDiff, Nat.reduceAdd, Nat.add_zero, Nat.zero_add, List.length_cons, List.length_nil, List.set_cons_zero, List.set_cons_succ, Nat.reduceLT, s_fi, s_fl, s_fo, s_fa, s_f0, s_f1, s_set, s_ss, lg_cmp_ge, lg_cmp_le, lg_cmp_gt, lg_cmp_lt, lg_cmp_eq, s_brT, s_brF, s_10, w_By_makeRoom, r_By_makeRoom, l_By_makeRoom_0, l_By_makeRoom_44, f_0_9, ks_16384, kc_2, mm_0_19, q_ac_no_0_19, mm_0_25, q_ac_no_0_25, ml_0_28, w_Ar_copyOf, q_ac_no_0_28, q_mm_no_0_28, ty_0_0, h1, h2]
  exact ⟨fun _ => q1, fun z => absurd (nI_le hk (by omega)) z⟩
