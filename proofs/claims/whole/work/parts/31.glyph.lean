/-! Outline.addsGlyph: at every depth -/
theorem PL_le {F : Nat → Nat} {lg : Prop} [Decidable lg] {ls ll gl2 N : Nat} (h : PL_ok F lg ls ll gl2 N) : ∀ r g, g + r = N → DP F lg ls ll g ≤ gl2
  | 0, g, e => by have : g = N := by omega
                  subst this
                  exact h.2.2
  | r + 1, g, e => Nat.le_trans (h.2.1 g (by omega)) (PL_le h r (g + 1) (by omega))
set_option maxRecDepth 100000 in
set_option maxHeartbeats 4000000 in
theorem c_Ou_addsParts {G : q_G} {l : Launch} {F : Nat → Nat} {sz o row m : Nat} {g : Nat → Int32} {u r : Nat} (IH : AGs G l F sz o row m g u r) (hap : q_ap u o row) {d dp own cts e n gg c p : Nat} (hdp : dp + 1 + r = 6) (he : e ≤ sz) (hcto : cts ≤ own) (hown : own ≤ 512) (hc : c ≤ 64) (hgg : gg < f_N F sz) (hp : p ≤ e) {wg : Int32} {h : q_H} {g1 g2 g3 g4 : Nat → Int32} {Q : q_P} (hK : FoK h o F sz) (hB : q_By h (o + 1) row m g sz F) (O1 : h u = some (e_Ou u (nI own) (nI cts) (nI c) wg)) (A1 : OuG h u g1 g2 g3 g4) (R1 : OuR h u) (C1 : q_Cu h (u + 8 + 2 * dp) (o + 1) p e 0)
    (q1 : ∀ L rg' c' w, PR F e (RD F sz r) 16 [] 0 c gg p = some (L, rg', c', w) → own + L.length ≤ 512 → ∀ h' a1 a2 a3 a4, q_fO h h' u dp → h' u = some (e_Ou u (nI (own + L.length)) (nI (cts + rg')) (nI c') (nI w)) → OuG h' u a1 a2 a3 a4 → OuR h' u → q_PL a1 a2 a3 a4 own cts L → q_kp own g1 g2 g3 g4 a1 a2 a3 a4 → Q (some (.int 1)) h' n)
    (q0 : (∀ L rg' c' w, PR F e (RD F sz r) 16 [] 0 c gg p = some (L, rg', c', w) → 512 < own + L.length) → ∀ h', q_fO h h' u dp → OuJ h' u → Q (some (.int 0)) h' n) :
    q_Call G l M_Ou_addsParts (d + 2 * r + 4) 0 0 [.ref u, .ref o, .int (nI gg), .int (nI dp)] h n Q := by
  have O1' := O1
  unfold e_Ou at O1'
  obtain ⟨fn, f1, f2⟩ := R1.1
  have f3 := f2 dp (by omega)
  refine q_in u_Ou_addsParts (by rw [L_Ou_addsParts]; exact Nat.le_of_ble_eq_true rfl) ?_
  rw [L_Ou_addsParts]
  refine q_at o_Ou_addsParts [23] 20 l_Ou_addsParts_0 ?_
  simp -implicitDefEqProofs only [s_go, s_nil, s_cons, q_ins, s_op, s_i, s_j, s_a, s_v, s_li, s_lj, s_la, s_liO, s_ljO, s_laO, q_get, q_p1, q_p2, s_n2i, s_n2r, s_n2l, s_n2n, q_pad, q_ar, s_ob, s_obO, q_nth, s_ri, s_riO, s_rb, s_rbO, s_rzO, s_rl, s_rlO, s_rq, s_rqO, s_ry, s_ryO, s_dn, s_tl, s_tn, s_ap, s_an, s_ci, s_cr, s_ni, s_n0, s_n1, q_ags, q_cat, List.contains_nil, List.contains_cons, Nat.reduceBEq, Bool.or_false, Bool.false_or, Bool.true_or, Bool.false_eq_true, ↓reduceIte, Nat.le_refl, Nat.zero_le, true_and, and_true, Nat.reduceLeDiff, Nat.reduceAdd, Nat.add_zero, Nat.zero_add, List.length_cons, List.length_nil, List.set_cons_zero, List.set_cons_succ, Nat.reduceLT, s_fi, s_fl, s_fo, s_fa, s_f0, s_f1, s_set, s_ss, lg_cmp_ge, lg_cmp_le, lg_cmp_gt, lg_cmp_lt, lg_cmp_eq, s_brT, s_brF, s_10, w_Ou_addsParts, r_Ou_addsParts, l_Ou_addsParts_0, l_Ou_addsParts_23, l_Ou_addsParts_97, l_Ou_addsParts_99, l_Ou_addsParts_116, l_Ou_addsParts_131, l_Ou_addsParts_146, l_Ou_addsParts_147, f_4_35, f_4_50, kc_1, kc_0, kb_16, f_4_56, ty_4_8, kb_64, ml_4_118, w_Pa_isRead, f_4_122, ml_4_59, w_Ou_addsGlyph, ml_4_125, w_Ou_isLaid, ks_512, ml_4_129, w_Pa_has, f_4_63, kb_32, ty_4_9, O1', f1, nI_clamp (show dp < 2 ^ 31 by omega), f3, va_rf]
  refine ⟨vp_in_nI (by omega) (by omega), ?_⟩
  exact z_Ou_addsParts IH hap hdp he hcto 16 0 [] 0 c gg p h g1 g2 g3 g4 wg _ (by omega) hp hown ⟨Nat.le_refl _, Nat.zero_le _, hc, fun P hP => (by cases hP), hgg⟩ hK hB (fun _ _ => rfl) O1 A1 R1 C1 (fun j hj => absurd hj (Nat.not_lt_zero _)) (fun j _ => ⟨rfl, rfl, rfl, rfl⟩) q1 q0
