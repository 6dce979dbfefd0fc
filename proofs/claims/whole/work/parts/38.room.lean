/-! Arrays.copyOf -/
set_option maxRecDepth 100000 in
set_option maxHeartbeats 4000000 in
theorem c_Ar_copyOf {G : q_G} {l : Launch} {d a m n L : Nat} {g : Nat → Int32} {h : q_H} {Q : q_P} (hA : h a = some (.inl (1, m, .inl g))) (han : a < n) (hL : m < L) (hL2 : L ≤ 16384) (hg : ∀ j, fits .byte (.int (g j)) = true)
    (q1 : ∀ h' g', q_1 h h' n → h' n = some (.inl (1, L, .inl g')) → (∀ j, j < m → g' j = g j) → (∀ j, m ≤ j → g' j = 0) → Q (some (.ref n)) h' (n + 1)) : q_Call G l M_Ar_copyOf (d + 1) 1 L [.ref a, .int (nI L)] h n Q := by
  refine q_in u_Ar_copyOf (by rw [L_Ar_copyOf]; exact Nat.le_of_ble_eq_true rfl) ?_
  rw [L_Ar_copyOf]
  refine q_at o_Ar_copyOf [] 20 l_Ar_copyOf_0 ?_
  have ne : a ≠ n := by omega
  simp -implicitDefEqProofs only [s_go, s_nil, s_cons, q_ins, s_op, s_i, s_j, s_a, s_v, s_li, s_lj, s_la, s_liO, s_ljO, s_laO, q_get, q_p1, q_p2, s_n2i, s_n2r, s_n2l, s_n2n, q_pad, q_ar, s_ob, s_obO, q_nth, s_ri, s_riO, s_rb, s_rbO, s_rzO, s_rl, s_rlO, s_rq, s_rqO, s_ry, s_ryO, s_dn, s_tl, s_tn, s_ap, s_an, s_ci, s_cr, s_ni, s_n0, s_n1, q_ags, q_cat, List.contains_nil, List.contains_cons, Nat.reduceBEq, Bool.or_false, Bool.false_or, Bool.true_or, Bool.false_eq_true, ↓reduceIte, Nat.le_refl, Nat.zero_le, true_and, and_true, Nat.reduceLeDiff, Nat.reduceAdd, Nat.add_zero, Nat.zero_add, List.length_cons, List.length_nil, List.set_cons_zero, List.set_cons_succ, Nat.reduceLT, s_fi, s_fl, s_fo, s_fa, s_f0, s_f1, s_set, s_ss, lg_cmp_ge, lg_cmp_le, lg_cmp_gt, lg_cmp_lt, lg_cmp_eq, s_brT, s_brF, s_10, w_Ar_copyOf, r_Ar_copyOf, l_Ar_copyOf_0, l_Ar_copyOf_14, kc_0, mm_11_304, q_ac_no_11_304, ac_11_150, hA, nI_clamp (show L < 2 ^ 31 by omega), s_ne _ _ ne, q_new]
  refine ⟨fun z => absurd ((nI_inj (by omega) (by omega)).mp z) (by omega), fun _ => ?_⟩
  have e1 : (if nI L < Int32.ofNat m then nI L else Int32.ofNat m) = nI m := if_neg (nI_nlt (by omega) (by omega))
  rw [e1]
  refine ⟨nI_nlt (b := 0) (by omega) (by omega), by omega, ?_⟩
  have e2 : (nI m).toNatClampNeg = m := nI_clamp (by omega)
  refine ⟨rfl, by decide, by decide, nI_nlt (b := 0) (by omega) (by omega), ?_, ?_, ?_, Or.inr ⟨_, rfl⟩, ?_⟩
  · show 0 + _ ≤ _
    omega
  · show 0 + _ ≤ L
    omega
  · exact fun i _ => hg _
  · rw [e2, show Int32.toNatClampNeg 0 = 0 from rfl]
    exact q1 _ _ (fun b hb => s_ne _ _ hb) (s_set _ _ _) (fun j hj => by rw [pk_cpy_in (Nat.zero_le _) (by show j < 0 + m; omega)]; exact congrArg g (by show 0 + (j - 0) = j; omega)) (fun j hj => by rw [pk_cpy_out (Or.inr (by show 0 + m ≤ j; omega))])
