/-! Bytes.u8 -/
theorem q_nn {x : Int32} (h : ¬ x < 0) : ∃ k : Nat, k < 2 ^ 31 ∧ x = nI k := by
  have h1 : 0 ≤ x.toInt := by
    rw [Int32.lt_iff_toInt_lt, show (0 : Int32).toInt = 0 from rfl] at h
    omega
  have h2 := Int32.toInt_lt x
  refine ⟨x.toInt.toNat, by omega, ?_⟩
  rw [← Int32.toInt_inj, nI_toInt (by omega)]
  omega
set_option maxRecDepth 100000 in
set_option maxHeartbeats 4000000 in
theorem c_By_u8 {G : q_G} {l : Launch} {d f row m n sz : Nat} {x : Int32} {g : Nat → Int32} {F : Nat → Nat} {h : q_H} {Q : q_P} (hB : q_By h f row m g sz F) (q1 : ∀ k, k < sz → x = nI k → Q (some (.int (nI (F k)))) h n) (q0 : (∀ k, k < sz → x ≠ nI k) → Q (some (.int 0)) h n) : q_Call G l M_By_u8 d 0 0 [.ref f, .int x] h n Q := by
  have hs : sz ≤ 16384 := Nat.le_trans hB.2.2.1 hB.2.2.2.1
  have h1 := hB.1
  have h2 := hB.2.1
  refine q_in u_By_u8 (by rw [L_By_u8]; exact Nat.le_of_ble_eq_true rfl) ?_
  rw [L_By_u8]
  refine q_at o_By_u8 [] 20 l_By_u8_0 ?_
  by_cases c : x < 0
  · simp -implicitDefEqProofs only [s_go, s_nil, s_cons, q_ins, s_op, s_i, s_j, s_a, s_v, s_li, s_lj, s_la, s_liO, s_ljO, s_laO, q_get, q_p1, q_p2, s_n2i, s_n2r, s_n2l, s_n2n, q_pad, q_ar, s_ob, s_obO, q_nth, s_ri, s_riO, s_rb, s_rbO, s_rzO, s_rl, s_rlO, s_rq, s_rqO, s_ry, s_ryO, s_dn, s_tl, s_tn, s_ap, s_an, s_ci, s_cr, s_ni, s_n0, s_n1, q_ags, q_cat, List.contains_nil, List.contains_cons, Nat.reduceBEq, Bool.or_false, Bool.false_or, Bool.true_or, Bool.false_eq_true, ↓reduceIte, Nat.le_refl, Nat.zero_le, true_and, and_true, Nat.reduceLeDiff, Nat.reduceAdd, Nat.add_zero, Nat.zero_add, List.length_cons, List.length_nil, List.set_cons_zero, List.set_cons_succ, Nat.reduceLT, s_fi, s_fl, s_fo, s_fa, s_f0, s_f1, s_set, s_ss, lg_cmp_ge, lg_cmp_le, lg_cmp_gt, lg_cmp_lt, lg_cmp_eq, s_brT, s_brF, s_10, w_By_u8, r_By_u8, l_By_u8_0, l_By_u8_25, l_By_u8_26, f_0_15, f_0_9, ks_255, kc_0, h1, h2]
    refine ⟨fun _ => q0 (fun k hk e => ?_), fun z => absurd c z⟩
    subst e
    rw [Int32.lt_iff_toInt_lt, nI_toInt (by omega), show (0 : Int32).toInt = 0 from rfl] at c
    omega
  · obtain ⟨k, hk, rfl⟩ := q_nn c
    simp -implicitDefEqProofs only [s_go, s_nil, s_cons, q_ins, s_op, s_i, s_j, s_a, s_v, s_li, s_lj, s_la, s_liO, s_ljO, s_laO, q_get, q_p1, q_p2, s_n2i, s_n2r, s_n2l, s_n2n, q_pad, q_ar, s_ob, s_obO, q_nth, s_ri, s_riO, s_rb, s_rbO, s_rzO, s_rl, s_rlO, s_rq, s_rqO, s_ry, s_ryO, s_dn, s_tl, s_tn, s_ap, s_an, s_ci, s_cr, s_ni, s_n0, s_n1, q_ags, q_cat, List.contains_nil, List.contains_cons, Nat.reduceBEq, Bool.or_false, Bool.false_or, Bool.true_or, Bool.false_eq_true, ↓reduceIte, Nat.le_refl, Nat.zero_le, true_and, and_true, Nat.reduceLeDiff, Nat.reduceAdd, Nat.add_zero, Nat.zero_add, List.length_cons, List.length_nil, List.set_cons_zero, List.set_cons_succ, Nat.reduceLT, s_fi, s_fl, s_fo, s_fa, s_f0, s_f1, s_set, s_ss, lg_cmp_ge, lg_cmp_le, lg_cmp_gt, lg_cmp_lt, lg_cmp_eq, s_brT, s_brF, s_10, w_By_u8, r_By_u8, l_By_u8_0, l_By_u8_25, l_By_u8_26, f_0_15, f_0_9, ks_255, kc_0, h1, h2, nI_clamp hk]
    refine ⟨fun z => absurd z c, fun _ => ⟨fun z => ?_, fun z => ?_⟩⟩
    · exact q0 (fun j hj e => by
        have e := (nI_inj hk (by omega)).mp e
        have z := (nI_leI (by omega) hk).mp z
        omega)
    · have hks : k < sz := Nat.lt_of_not_le (fun y => z ((nI_leI (by omega) hk).mpr y))
      refine ⟨vp_in_nI (by have := hB.2.2.1; omega) (by have := hB.2.2.2.1; omega), ?_⟩
      rw [hB.2.2.2.2.1 k hks]
      exact q1 k hks rfl
