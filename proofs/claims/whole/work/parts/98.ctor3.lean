/-! Outline's constructor -/
theorem k_new0 : q_new 0 512 = .inl (0, 512, .inl (fun _ => 0)) := rfl
theorem k_new4 : q_new 4 6 = .inl (4, 6, .inr (.inr (.inr (.inr (fun _ => none))))) := rfl
theorem va_up_s {α : Type} {g : Nat → Option α} {i : Nat} {x : Option α} : va_up g i x i = x := by simp [va_up]
theorem va_up_n {α : Type} {g : Nat → Option α} {i j : Nat} {x : Option α} (h : j ≠ i) : va_up g i x j = g j := by simp [va_up, h]
set_option maxRecDepth 100000 in
set_option maxHeartbeats 4000000 in
theorem z_Ou_init {G : q_G} {l : Launch} {d u f : Nat} {h0 : q_H} {Q : q_P} (kk : ∀ h', (∀ b, (b < u ∨ u + 18 < b) → h' b = h0 b) → OuJ h' u → Q none h' (u + 19)) :
    ∀ (r k : Nat) (h : q_H), k + r = 6 → (∀ b, (b < u ∨ u + 18 < b) → h b = h0 b) → h u = some (e_Ou u 0 0 0 0) → OuA h u → q_Cu h (u + 5) f 0 0 0 → (∃ fn : Nat → Option Nat, h (u + 6) = some (.inl (4, 6, .inr (.inr (.inr (.inr fn))))) ∧ ∀ j, j < k → fn j = some (u + 7 + 2 * j)) → (∀ j, j < k → OuK h u j) → q_Z G l M_Ou_init (d + 3) 18 2136 Q 63 [some (.ref u), some (.ref f), some (.int (nI k))] [] h (u + 7 + 2 * k) (6 + 2 * k) (2058 + 13 * k) := by
  intro r
  induction r with
  | zero =>
    intro k h hk hF hO hA hC hR hK
    have e : k = 6 := by omega
    subst e
    refine q_at o_Ou_init [63] 20 l_Ou_init_63 ?_
    simp -implicitDefEqProofs only [s_go, s_nil, s_cons, q_ins, s_op, s_i, s_j, s_a, s_v, s_li, s_lj, s_la, s_liO, s_ljO, s_laO, q_get, q_p1, q_p2, s_n2i, s_n2r, s_n2l, s_n2n, q_pad, q_ar, s_ob, s_obO, q_nth, s_ri, s_riO, s_rb, s_rbO, s_rzO, s_rl, s_rlO, s_rq, s_rqO, s_ry, s_ryO, s_dn, s_tl, s_tn, s_ap, s_an, s_ci, s_cr, s_ni, s_n0, s_n1, q_ags, q_cat, List.contains_nil, List.contains_cons, Nat.reduceBEq, Bool.or_false, Bool.false_or, Bool.true_or, Bool.false_eq_true, ↓reduceIte, Nat.le_refl, Nat.zero_le, true_and, and_true, Nat.reduceLeDiff, Nat.reduceAdd, Nat.add_zero, Nat.zero_add, List.length_cons, List.length_nil, List.set_cons_zero, List.set_cons_succ, Nat.reduceLT, s_fi, s_fl, s_fo, s_fa, s_f0, s_f1, s_set, s_ss, lg_cmp_ge, lg_cmp_le, lg_cmp_gt, lg_cmp_lt, lg_cmp_eq, s_brT, s_brF, s_10, w_Ou_init, r_Ou_init, l_Ou_init_0, l_Ou_init_63, l_Ou_init_89, oi_4_3, ks_512, f_4_9, ty_4_0, f_4_15, ty_4_1, f_4_18, ty_4_2, f_4_21, ty_4_3, cn_4_24, ml_4_26, w_Cu_init, q_oi_no_4_26, f_4_29, ty_4_4, kb_6, an_4_33, f_4_35, ty_4_5, kc_0, cn_4_33, ml_4_39, w_Pa_init, q_oi_no_4_39, kc_1, show ((6 : Int32) ≤ nI 6) = True from eq_true (by decide)]
    exact kk h hF ⟨⟨_, _, _, _, hO⟩, hA, hR, ⟨f, 0, 0, 0, hC⟩, hK⟩
  | succ r ih =>
    intro k h hk hF hO hA hC hR hK
    obtain ⟨fn, hr, hfn⟩ := hR
    have hO' := hO
    unfold e_Ou at hO'
    have n1 : u ≠ u + 7 + 2 * k := by omega
    have n2 : u + 6 ≠ u + 7 + 2 * k := by omega
    have n3 : u + 6 ≠ u + 7 + 2 * k + 1 := by omega
    have n4 : u + 7 + 2 * k ≠ u + 7 + 2 * k + 1 := by omega
    refine q_at o_Ou_init [63] 20 l_Ou_init_63 ?_
    simp -implicitDefEqProofs only [s_go, s_nil, s_cons, q_ins, s_op, s_i, s_j, s_a, s_v, s_li, s_lj, s_la, s_liO, s_ljO, s_laO, q_get, q_p1, q_p2, s_n2i, s_n2r, s_n2l, s_n2n, q_pad, q_ar, s_ob, s_obO, q_nth, s_ri, s_riO, s_rb, s_rbO, s_rzO, s_rl, s_rlO, s_rq, s_rqO, s_ry, s_ryO, s_dn, s_tl, s_tn, s_ap, s_an, s_ci, s_cr, s_ni, s_n0, s_n1, q_ags, q_cat, List.contains_nil, List.contains_cons, Nat.reduceBEq, Bool.or_false, Bool.false_or, Bool.true_or, Bool.false_eq_true, ↓reduceIte, Nat.le_refl, Nat.zero_le, true_and, and_true, Nat.reduceLeDiff, Nat.reduceAdd, Nat.add_zero, Nat.zero_add, List.length_cons, List.length_nil, List.set_cons_zero, List.set_cons_succ, Nat.reduceLT, s_fi, s_fl, s_fo, s_fa, s_f0, s_f1, s_set, s_ss, lg_cmp_ge, lg_cmp_le, lg_cmp_gt, lg_cmp_lt, lg_cmp_eq, s_brT, s_brF, s_10, w_Ou_init, r_Ou_init, l_Ou_init_0, l_Ou_init_63, l_Ou_init_89, oi_4_3, ks_512, f_4_9, ty_4_0, f_4_15, ty_4_1, f_4_18, ty_4_2, f_4_21, ty_4_3, cn_4_24, ml_4_26, w_Cu_init, q_oi_no_4_26, f_4_29, ty_4_4, kb_6, an_4_33, f_4_35, ty_4_5, kc_0, cn_4_33, ml_4_39, w_Pa_init, q_oi_no_4_39, kc_1, show ((6 : Int32) ≤ nI k) = False from eq_false (fun c => absurd ((nI_leI (a := 6) (by omega) (by omega)).mp c) (by omega)), hO', k_cl5, k_z5]
    refine ⟨by omega, by omega, ?_⟩
    refine q_c1 1 4 (by omega) (by omega) ?_
    refine c_Pa_init (s_set _ _ _) n4 ?_
    simp -implicitDefEqProofs only [s_go, s_nil, s_cons, q_ins, s_op, s_i, s_j, s_a, s_v, s_li, s_lj, s_la, s_liO, s_ljO, s_laO, q_get, q_p1, q_p2, s_n2i, s_n2r, s_n2l, s_n2n, q_pad, q_ar, s_ob, s_obO, q_nth, s_ri, s_riO, s_rb, s_rbO, s_rzO, s_rl, s_rlO, s_rq, s_rqO, s_ry, s_ryO, s_dn, s_tl, s_tn, s_ap, s_an, s_ci, s_cr, s_ni, s_n0, s_n1, q_ags, q_cat, List.contains_nil, List.contains_cons, Nat.reduceBEq, Bool.or_false, Bool.false_or, Bool.true_or, Bool.false_eq_true, ↓reduceIte, Nat.le_refl, Nat.zero_le, true_and, and_true, Nat.reduceLeDiff, Nat.reduceAdd, Nat.add_zero, Nat.zero_add, List.length_cons, List.length_nil, List.set_cons_zero, List.set_cons_succ, Nat.reduceLT, s_fi, s_fl, s_fo, s_fa, s_f0, s_f1, s_set, s_ss, lg_cmp_ge, lg_cmp_le, lg_cmp_gt, lg_cmp_lt, lg_cmp_eq, s_brT, s_brF, s_10, w_Ou_init, r_Ou_init, l_Ou_init_0, l_Ou_init_63, l_Ou_init_89, oi_4_3, ks_512, f_4_9, ty_4_0, f_4_15, ty_4_1, f_4_18, ty_4_2, f_4_21, ty_4_3, cn_4_24, ml_4_26, w_Cu_init, q_oi_no_4_26, f_4_29, ty_4_4, kb_6, an_4_33, f_4_35, ty_4_5, kc_0, cn_4_33, ml_4_39, w_Pa_init, q_oi_no_4_39, kc_1, hr, s_ne _ _ n2, s_ne _ _ n3, nI_clamp (show k < 2 ^ 31 by omega), nI_1]
    refine ⟨vp_in_nI (by omega) (by omega), ?_⟩
    rw [show u + 7 + 2 * k + 1 + 1 = u + 7 + 2 * (k + 1) by omega, show 6 + 2 * k + 1 + 1 = 6 + 2 * (k + 1) by omega, show 2058 + 13 * k + 9 + 4 = 2058 + 13 * (k + 1) by omega]
    obtain ⟨H, hH⟩ : ∃ H, H = q_set (q_set (q_set (q_set h (u + 7 + 2 * k) (Sum.inr (5, [Value.null, Value.int 0, Value.int 0, Value.int 0, Value.int 0, Value.int 0, Value.int 0, Value.int 0, Value.int 0]))) (u + 7 + 2 * k + 1) (Sum.inr (2, [Value.ref f, Value.int 0, Value.int 0, Value.int 0]))) (u + 7 + 2 * k) (Sum.inr (5, [Value.ref (u + 7 + 2 * k + 1), Value.int 0, Value.int 0, Value.int 0, Value.int 0, Value.int 0, Value.int 0, Value.int 0, Value.int 0]))) (u + 6) (Sum.inl (4, 6, Sum.inr (Sum.inr (Sum.inr (Sum.inr (va_up fn k (some (u + 7 + 2 * k)))))))) := ⟨_, rfl⟩
    rw [← hH]
    have key : ∀ b, b ≠ u + 7 + 2 * k → b ≠ u + 7 + 2 * k + 1 → b ≠ u + 6 → H b = h b := fun b e1 e2 e3 => by rw [hH, s_ne _ _ e3, s_ne _ _ e1, s_ne _ _ e2, s_ne _ _ e1]
    have k6 : H (u + 6) = some (.inl (4, 6, .inr (.inr (.inr (.inr (va_up fn k (some (u + 7 + 2 * k)))))))) := by rw [hH, s_set]
    have k7 : H (u + 7 + 2 * k) = some (e_Pa (u + 8 + 2 * k) 0 0 0 0 0 0 0 0) := by
      rw [hH, s_ne _ _ (by omega), s_set, show u + 7 + 2 * k + 1 = u + 8 + 2 * k by omega]
      rfl
    have k8 : H (u + 8 + 2 * k) = some (e_Cu f 0 0 0) := by
      rw [show u + 8 + 2 * k = u + 7 + 2 * k + 1 by omega, hH, s_ne _ _ (by omega), s_ne _ _ (by omega), s_set]
      rfl
    clear hH
    refine ih (k + 1) H (by omega) (fun b hb => ?_) ?_ ?_ ?_ ⟨_, k6, fun j hj => ?_⟩ (fun j hj => ?_)
    · rw [key b (by omega) (by omega) (by omega)]; exact hF b hb
    · rw [key u (by omega) (by omega) (by omega)]; exact hO
    · obtain ⟨g1, g2, g3, g4, a1, a2, a3, a4⟩ := hA
      unfold q_ar5 at a1 a2 a3 a4
      unfold OuA q_ar5
      refine ⟨g1, g2, g3, g4, ?_, ?_, ?_, ?_⟩
      · rw [key _ (by omega) (by omega) (by omega)]; exact a1
      · rw [key _ (by omega) (by omega) (by omega)]; exact a2
      · rw [key _ (by omega) (by omega) (by omega)]; exact a3
      · rw [key _ (by omega) (by omega) (by omega)]; exact a4
    · unfold q_Cu at hC ⊢
      rw [key _ (by omega) (by omega) (by omega)]; exact hC
    · rcases Nat.lt_or_ge j k with q | q
      · rw [va_up_n (by omega)]; exact hfn j q
      · have : j = k := by omega
        subst this
        exact va_up_s
    · rcases Nat.lt_or_ge j k with q | q
      · obtain ⟨⟨a1, a2, a3, a4, a5, a6, a7, a8, hp⟩, ⟨f', p, e, ro, hc⟩⟩ := hK j q
        unfold q_Cu at hc
        exact ⟨⟨a1, a2, a3, a4, a5, a6, a7, a8, by rw [key _ (by omega) (by omega) (by omega)]; exact hp⟩, ⟨f', p, e, ro, by unfold q_Cu; rw [key _ (by omega) (by omega) (by omega)]; exact hc⟩⟩
      · have : j = k := by omega
        subst this
        exact ⟨⟨0, 0, 0, 0, 0, 0, 0, 0, k7⟩, ⟨f, 0, 0, 0, k8⟩⟩
set_option maxRecDepth 100000 in
set_option maxHeartbeats 4000000 in
theorem c_Ou_init {G : q_G} {l : Launch} {d u f : Nat} {h : q_H} {Q : q_P} (hO : h u = some (.inr (4, [.null, .null, .null, .null, .null, .null, .int 0, .int 0, .int 0, .int 0])))
    (hq : ∀ h', (∀ b, (b < u ∨ u + 18 < b) → h' b = h b) → OuJ h' u → Q none h' (u + 19)) : q_Call G l M_Ou_init (d + 3) 18 2136 [.ref u, .ref f] h (u + 1) Q := by
  have n1 : u ≠ u + 1 := by omega
  have n2 : u ≠ u + 2 := by omega
  have n3 : u ≠ u + 3 := by omega
  have n4 : u ≠ u + 4 := by omega
  have n5 : u ≠ u + 5 := by omega
  have n6 : u ≠ u + 6 := by omega
  refine q_in u_Ou_init (by rw [L_Ou_init]; exact Nat.le_of_ble_eq_true rfl) ?_
  rw [L_Ou_init]
  refine q_at o_Ou_init [63] 20 l_Ou_init_0 ?_
  simp -implicitDefEqProofs only [s_go, s_nil, s_cons, q_ins, s_op, s_i, s_j, s_a, s_v, s_li, s_lj, s_la, s_liO, s_ljO, s_laO, q_get, q_p1, q_p2, s_n2i, s_n2r, s_n2l, s_n2n, q_pad, q_ar, s_ob, s_obO, q_nth, s_ri, s_riO, s_rb, s_rbO, s_rzO, s_rl, s_rlO, s_rq, s_rqO, s_ry, s_ryO, s_dn, s_tl, s_tn, s_ap, s_an, s_ci, s_cr, s_ni, s_n0, s_n1, q_ags, q_cat, List.contains_nil, List.contains_cons, Nat.reduceBEq, Bool.or_false, Bool.false_or, Bool.true_or, Bool.false_eq_true, ↓reduceIte, Nat.le_refl, Nat.zero_le, true_and, and_true, Nat.reduceLeDiff, Nat.reduceAdd, Nat.add_zero, Nat.zero_add, List.length_cons, List.length_nil, List.set_cons_zero, List.set_cons_succ, Nat.reduceLT, s_fi, s_fl, s_fo, s_fa, s_f0, s_f1, s_set, s_ss, lg_cmp_ge, lg_cmp_le, lg_cmp_gt, lg_cmp_lt, lg_cmp_eq, s_brT, s_brF, s_10, w_Ou_init, r_Ou_init, l_Ou_init_0, l_Ou_init_63, l_Ou_init_89, oi_4_3, ks_512, f_4_9, ty_4_0, f_4_15, ty_4_1, f_4_18, ty_4_2, f_4_21, ty_4_3, cn_4_24, ml_4_26, w_Cu_init, q_oi_no_4_26, f_4_29, ty_4_4, kb_6, an_4_33, f_4_35, ty_4_5, kc_0, cn_4_33, ml_4_39, w_Pa_init, q_oi_no_4_39, kc_1, hO, k_cl2, k_z2, k_at0, k_n512, k_c512, k_n6, k_c6, Nat.add_assoc, s_ne _ _ n1, s_ne _ _ n2, s_ne _ _ n3, s_ne _ _ n4]
  refine q_c0 (by decide) (by decide) ?_
  refine c_Cu_init (s_set _ _ _) ?_
  simp -implicitDefEqProofs only [s_go, s_nil, s_cons, q_ins, s_op, s_i, s_j, s_a, s_v, s_li, s_lj, s_la, s_liO, s_ljO, s_laO, q_get, q_p1, q_p2, s_n2i, s_n2r, s_n2l, s_n2n, q_pad, q_ar, s_ob, s_obO, q_nth, s_ri, s_riO, s_rb, s_rbO, s_rzO, s_rl, s_rlO, s_rq, s_rqO, s_ry, s_ryO, s_dn, s_tl, s_tn, s_ap, s_an, s_ci, s_cr, s_ni, s_n0, s_n1, q_ags, q_cat, List.contains_nil, List.contains_cons, Nat.reduceBEq, Bool.or_false, Bool.false_or, Bool.true_or, Bool.false_eq_true, ↓reduceIte, Nat.le_refl, Nat.zero_le, true_and, and_true, Nat.reduceLeDiff, Nat.reduceAdd, Nat.add_zero, Nat.zero_add, List.length_cons, List.length_nil, List.set_cons_zero, List.set_cons_succ, Nat.reduceLT, s_fi, s_fl, s_fo, s_fa, s_f0, s_f1, s_set, s_ss, lg_cmp_ge, lg_cmp_le, lg_cmp_gt, lg_cmp_lt, lg_cmp_eq, s_brT, s_brF, s_10, w_Ou_init, r_Ou_init, l_Ou_init_0, l_Ou_init_63, l_Ou_init_89, oi_4_3, ks_512, f_4_9, ty_4_0, f_4_15, ty_4_1, f_4_18, ty_4_2, f_4_21, ty_4_3, cn_4_24, ml_4_26, w_Cu_init, q_oi_no_4_26, f_4_29, ty_4_4, kb_6, an_4_33, f_4_35, ty_4_5, kc_0, cn_4_33, ml_4_39, w_Pa_init, q_oi_no_4_39, kc_1, hO, k_cl2, k_z2, k_at0, k_n512, k_c512, k_n6, k_c6, Nat.add_assoc, s_ne _ _ n1, s_ne _ _ n2, s_ne _ _ n3, s_ne _ _ n4, s_ne _ _ n5, s_ne _ _ n6]
  refine z_Ou_init (f := f) (h0 := h) hq 6 0 _ rfl (fun b hb => ?_) (s_set _ _ _) ⟨fun _ => 0, fun _ => 0, fun _ => 0, fun _ => 0, ?_, ?_, ?_, ?_⟩ ?_ ⟨fun _ => none, ?_, fun j hj => absurd hj (by omega)⟩ (fun j hj => absurd hj (by omega))
  · have e0 : b ≠ u := by omega
    have e1 : b ≠ u + 1 := by omega
    have e2 : b ≠ u + 2 := by omega
    have e3 : b ≠ u + 3 := by omega
    have e4 : b ≠ u + 4 := by omega
    have e5 : b ≠ u + 5 := by omega
    have e6 : b ≠ u + 6 := by omega
    simp only [q_set, e0, e1, e2, e3, e4, e5, e6, if_false]
  · simp [q_set, q_ar5, k_new0]
  · simp [q_set, q_ar5, k_new0]
  · simp [q_set, q_ar5, k_new0]
  · simp [q_set, q_ar5, k_new0]
  · simp [q_set, q_Cu, nI]
  · simp [q_set, k_new4]
