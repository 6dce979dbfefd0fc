/-! Outline.addsContours, addsSimple -/
set_option maxRecDepth 100000 in
set_option maxHeartbeats 4000000 in
theorem c_Ou_addsContours {G : q_G} {l : Launch} {d u f row m n sz first C p0 e cts : Nat} {prd wg : Int32} {g g0 : Nat → Int32} {F : Nat → Nat} {h : q_H} {Q : q_P} (hs : e ≤ sz) (hp0 : p0 ≤ e) (hC32 : C ≤ 32) (hcts : cts < 1000) (hfirst : first ≤ 512) (hne : u ≠ f ∧ u ≠ row ∧ u + 4 ≠ f ∧ u + 4 ≠ row ∧ u + 5 ≠ f ∧ u + 5 ≠ row) (hO : h u = some (e_Ou u (nI first) (nI cts) prd wg)) (hB : q_By h f row m g sz F) (hA : q_ar5 h (u + 4) g0) (hC : q_Cu h (u + 5) f p0 e 0)
    (q1 : CS_ok F e p0 first C → ∀ h' g', q_3 h h' u (u + 4) (u + 5) → h' u = some (e_Ou u (nI (first + CB F p0 C)) (nI (cts + C)) prd wg) → q_ar5 h' (u + 4) g' → CTs F p0 first cts C (CB F p0 C) g0 g' → q_Cu h' (u + 5) f (p0 + 2 * C + 2 + w2 F (p0 + 2 * C)) e 0 → Q (some (.int 1)) h' n)
    (q0 : ¬ CS_ok F e p0 first C → ∀ h' g' pts cts p' ro, q_3 h h' u (u + 4) (u + 5) → h' u = some (e_Ou u pts cts prd wg) → q_ar5 h' (u + 4) g' → q_Cu h' (u + 5) f p' e ro → (ro = 0 ∨ ro = 1) → Q (some (.int 0)) h' n) : q_Call G l M_Ou_addsContours (d + 1) 0 0 [.ref u, .int (nI C)] h n Q := by
  have hO' := hO
  unfold e_Ou at hO'
  refine q_in u_Ou_addsContours (by rw [L_Ou_addsContours]; exact Nat.le_of_ble_eq_true rfl) ?_
  rw [L_Ou_addsContours]
  refine q_at o_Ou_addsContours [10] 20 l_Ou_addsContours_0 ?_
  simp -implicitDefEqProofs only [s_go, s_nil, s_cons, q_ins, s_op, s_i, s_j, s_a, s_v, s_li, s_lj, s_la, s_liO, s_ljO, s_laO, q_get, q_p1, q_p2, s_n2i, s_n2r, s_n2l, s_n2n, q_pad, q_ar, s_ob, s_obO, q_nth, s_ri, s_riO, s_rb, s_rbO, s_rzO, s_rl, s_rlO, s_rq, s_rqO, s_ry, s_ryO, s_dn, s_tl, s_tn, s_ap, s_an, s_ci, s_cr, s_ni, s_n0, s_n1, q_ags, q_cat, List.contains_nil, List.contains_cons, Nat.reduceBEq, Bool.or_false, Bool.false_or, Bool.true_or, Bool.false_eq_true, ↓reduceIte, Nat.le_refl, Nat.zero_le, true_and, and_true, Nat.reduceLeDiff, Nat.reduceAdd, Nat.add_zero, Nat.zero_add, List.length_cons, List.length_nil, List.set_cons_zero, List.set_cons_succ, Nat.reduceLT, s_fi, s_fl, s_fo, s_fa, s_f0, s_f1, s_set, s_ss, lg_cmp_ge, lg_cmp_le, lg_cmp_gt, lg_cmp_lt, lg_cmp_eq, s_brT, s_brF, s_10, w_Ou_addsContours, r_Ou_addsContours, l_Ou_addsContours_0, l_Ou_addsContours_10, l_Ou_addsContours_49, l_Ou_addsContours_51, l_Ou_addsContours_56, l_Ou_addsContours_85, l_Ou_addsContours_94, l_Ou_addsContours_141, l_Ou_addsContours_142, f_4_50, kc_m1, kc_0, f_4_29, ml_4_78, w_Cu_u16, ks_256, ks_512, kc_1, f_4_21, f_4_53, ty_4_6, ty_4_7, ml_4_82, w_Cu_pass, f_4_86, hO']
  exact z_Ou_addsContours hs hC32 hcts hfirst hne hO hB q1 q0 C 0 h g0 (by omega) hp0 (fun j hj => absurd hj (by omega)) (fun _ _ _ => rfl) hA ⟨fun j hj => absurd hj (by unfold CB; simp), fun j _ => rfl⟩ hC
/-- where the flags lie; how many points -/
def s_pf (F : Nat → Nat) (p0 C : Nat) : Nat := p0 + 2 * C + 2 + w2 F (p0 + 2 * C)
def SIM_ok (F : Nat → Nat) (e p0 first C : Nat) : Prop := CS_ok F e p0 first C ∧ ∃ f px, FS F e (s_pf F p0 C) (CB F p0 C) = some (0, f, px) ∧ ∃ v py, AS F e (FL F e (s_pf F p0 C)) 1 4 px (CB F p0 C) = some (v, py) ∧ ∃ w pz, AS F e (FL F e (s_pf F p0 C)) 2 5 py (CB F p0 C) = some (w, pz)
/-- the outline's cells 1 .. 5 and u have changed alone -/
def q_f5 (h h' : q_H) (u : Nat) : Prop := ∀ b, (b < u ∨ u + 5 < b) → h' b = h b
def OuA (h : q_H) (u : Nat) : Prop := ∃ g1 g2 g3 g4, q_ar5 h (u + 1) g1 ∧ q_ar5 h (u + 2) g2 ∧ q_ar5 h (u + 3) g3 ∧ q_ar5 h (u + 4) g4
theorem FL_lt {F : Nat → Nat} (hF : ∀ j, F j < 256) {e p0 : Nat} (hp : p0 ≤ e) (i : Nat) : FL F e p0 i < 256 := by
  unfold FL
  cases hh : FS F e p0 (i + 1) with
  | none => dsimp only; omega
  | some x =>
    obtain ⟨a, b, c⟩ := x
    exact (FS_b hF hp (i + 1) a b c hh).2.1
theorem CB_le {F : Nat → Nat} {e p0 first C : Nat} (h : ∀ k, k < C → C1_ok F e p0 first k) (hf : first ≤ 512) : first + CB F p0 C ≤ 512 ∧ CB F p0 C ≤ 256 := by
  unfold CB
  split
  · omega
  · have := h (C - 1) (by omega)
    have h3 := this.2.2.1
    have h4 := this.2.2.2
    omega
set_option maxRecDepth 100000 in
set_option maxHeartbeats 4000000 in
theorem c_Ou_addsSimple {G : q_G} {l : Launch} {d u f row m n sz first C p0 e cts : Nat} {prd wg : Int32} {g g1 g2 g3 g4 : Nat → Int32} {F : Nat → Nat} {h : q_H} {Q : q_P} (hs : e ≤ sz) (hp0 : p0 ≤ e) (hC32 : C ≤ 32) (hcts : cts < 1000) (hfirst : first ≤ 512) (hnf : f < u ∨ u + 5 < f) (hnr : row < u ∨ u + 5 < row) (hO : h u = some (e_Ou u (nI first) (nI cts) prd wg)) (hB : q_By h f row m g sz F) (hA1 : q_ar5 h (u + 1) g1) (hA2 : q_ar5 h (u + 2) g2) (hA3 : q_ar5 h (u + 3) g3) (hA4 : q_ar5 h (u + 4) g4) (hC : q_Cu h (u + 5) f p0 e 0)
    (q1 : CS_ok F e p0 first C → ∀ f1 px v py w pz, FS F e (s_pf F p0 C) (CB F p0 C) = some (0, f1, px) → AS F e (FL F e (s_pf F p0 C)) 1 4 px (CB F p0 C) = some (v, py) → AS F e (FL F e (s_pf F p0 C)) 2 5 py (CB F p0 C) = some (w, pz) → ∀ h' a1 a2 a3 a4, q_f5 h h' u → h' u = some (e_Ou u (nI (first + CB F p0 C)) (nI (cts + C)) prd wg) → q_ar5 h' (u + 1) a1 → q_ar5 h' (u + 2) a2 → q_ar5 h' (u + 3) a3 → q_ar5 h' (u + 4) a4 → AXs F e (FL F e (s_pf F p0 C)) 1 4 px first (CB F p0 C) g1 a1 → AXs F e (FL F e (s_pf F p0 C)) 2 5 py first (CB F p0 C) g2 a2 → FLs F e (s_pf F p0 C) first (CB F p0 C) g3 a3 → CTs F p0 first cts C (CB F p0 C) g4 a4 → (∃ p', q_Cu h' (u + 5) f p' e 0) → Q (some (.int 1)) h' n)
    (q0 : ¬ SIM_ok F e p0 first C → ∀ h' pts cts p' ro, q_f5 h h' u → h' u = some (e_Ou u pts cts prd wg) → OuA h' u → q_Cu h' (u + 5) f p' e ro → (ro = 0 ∨ ro = 1) → Q (some (.int 0)) h' n) : q_Call G l M_Ou_addsSimple (d + 2) 0 0 [.ref u, .int (nI C)] h n Q := by
  have hF := hB.2.2.2.2.2.2
  have hO' := hO
  unfold e_Ou at hO'
  refine q_in u_Ou_addsSimple (by rw [L_Ou_addsSimple]; exact Nat.le_of_ble_eq_true rfl) ?_
  rw [L_Ou_addsSimple]
  refine q_at o_Ou_addsSimple [] 20 l_Ou_addsSimple_0 ?_
  simp -implicitDefEqProofs only [s_go, s_nil, s_cons, q_ins, s_op, s_i, s_j, s_a, s_v, s_li, s_lj, s_la, s_liO, s_ljO, s_laO, q_get, q_p1, q_p2, s_n2i, s_n2r, s_n2l, s_n2n, q_pad, q_ar, s_ob, s_obO, q_nth, s_ri, s_riO, s_rb, s_rbO, s_rzO, s_rl, s_rlO, s_rq, s_rqO, s_ry, s_ryO, s_dn, s_tl, s_tn, s_ap, s_an, s_ci, s_cr, s_ni, s_n0, s_n1, q_ags, q_cat, List.contains_nil, List.contains_cons, Nat.reduceBEq, Bool.or_false, Bool.false_or, Bool.true_or, Bool.false_eq_true, ↓reduceIte, Nat.le_refl, Nat.zero_le, true_and, and_true, Nat.reduceLeDiff, Nat.reduceAdd, Nat.add_zero, Nat.zero_add, List.length_cons, List.length_nil, List.set_cons_zero, List.set_cons_succ, Nat.reduceLT, s_fi, s_fl, s_fo, s_fa, s_f0, s_f1, s_set, s_ss, lg_cmp_ge, lg_cmp_le, lg_cmp_gt, lg_cmp_lt, lg_cmp_eq, s_brT, s_brF, s_10, w_Ou_addsSimple, r_Ou_addsSimple, l_Ou_addsSimple_0, l_Ou_addsSimple_55, l_Ou_addsSimple_56, f_4_50, ml_4_102, w_Ou_addsContours, ml_4_105, w_Ou_readsFlags, f_4_9, kc_2, kb_16, ml_4_108, w_Ou_readsAxis, f_4_15, kc_4, kb_32, kc_1, kc_0, hO']
  refine q_c0 (Nat.le_refl _) (Nat.le_refl _) ?_
  refine c_Ou_addsContours hs hp0 hC32 hcts hfirst ⟨by omega, by omega, by omega, by omega, by omega, by omega⟩ hO hB hA4 hC (fun cs h1 b4 t1 O1 A4 L4 C1 => ?_) (fun cs h1 b4 pts' cts' p' ro t1 O1 A4 C1 hro => ?_)
  rotate_left
  · simp -implicitDefEqProofs only [s_go, s_nil, s_cons, q_ins, s_op, s_i, s_j, s_a, s_v, s_li, s_lj, s_la, s_liO, s_ljO, s_laO, q_get, q_p1, q_p2, s_n2i, s_n2r, s_n2l, s_n2n, q_pad, q_ar, s_ob, s_obO, q_nth, s_ri, s_riO, s_rb, s_rbO, s_rzO, s_rl, s_rlO, s_rq, s_rqO, s_ry, s_ryO, s_dn, s_tl, s_tn, s_ap, s_an, s_ci, s_cr, s_ni, s_n0, s_n1, q_ags, q_cat, List.contains_nil, List.contains_cons, Nat.reduceBEq, Bool.or_false, Bool.false_or, Bool.true_or, Bool.false_eq_true, ↓reduceIte, Nat.le_refl, Nat.zero_le, true_and, and_true, Nat.reduceLeDiff, Nat.reduceAdd, Nat.add_zero, Nat.zero_add, List.length_cons, List.length_nil, List.set_cons_zero, List.set_cons_succ, Nat.reduceLT, s_fi, s_fl, s_fo, s_fa, s_f0, s_f1, s_set, s_ss, lg_cmp_ge, lg_cmp_le, lg_cmp_gt, lg_cmp_lt, lg_cmp_eq, s_brT, s_brF, s_10, w_Ou_addsSimple, r_Ou_addsSimple, l_Ou_addsSimple_0, l_Ou_addsSimple_55, l_Ou_addsSimple_56, f_4_50, ml_4_102, w_Ou_addsContours, ml_4_105, w_Ou_readsFlags, f_4_9, kc_2, kb_16, ml_4_108, w_Ou_readsAxis, f_4_15, kc_4, kb_32, kc_1, kc_0]
    exact q0 (fun z => cs z.1) h1 _ _ p' ro (fun b hb => t1 b (by omega) (by omega) (by omega)) O1 ⟨g1, g2, g3, b4, (t1 _ (by omega) (by omega) (by omega)).trans hA1, (t1 _ (by omega) (by omega) (by omega)).trans hA2, (t1 _ (by omega) (by omega) (by omega)).trans hA3, A4⟩ C1 hro
  have N512 := CB_le cs.1 hfirst
  have T1 : q_f5 h h1 u := fun b hb => t1 b (by omega) (by omega) (by omega)
  have B1 : q_By h1 f row m g sz F := hB.mv (T1 f hnf) (T1 row hnr)
  have A1 : q_ar5 h1 (u + 1) g1 := (t1 _ (by omega) (by omega) (by omega)).trans hA1
  have A2 : q_ar5 h1 (u + 2) g2 := (t1 _ (by omega) (by omega) (by omega)).trans hA2
  have A3 : q_ar5 h1 (u + 3) g3 := (t1 _ (by omega) (by omega) (by omega)).trans hA3
  have hpf : s_pf F p0 C ≤ e := cs.2.2
  have eN : first + CB F p0 C - first = CB F p0 C := by omega
  have O1' := O1
  unfold e_Ou at O1'
  simp -implicitDefEqProofs only [s_go, s_nil, s_cons, q_ins, s_op, s_i, s_j, s_a, s_v, s_li, s_lj, s_la, s_liO, s_ljO, s_laO, q_get, q_p1, q_p2, s_n2i, s_n2r, s_n2l, s_n2n, q_pad, q_ar, s_ob, s_obO, q_nth, s_ri, s_riO, s_rb, s_rbO, s_rzO, s_rl, s_rlO, s_rq, s_rqO, s_ry, s_ryO, s_dn, s_tl, s_tn, s_ap, s_an, s_ci, s_cr, s_ni, s_n0, s_n1, q_ags, q_cat, List.contains_nil, List.contains_cons, Nat.reduceBEq, Bool.or_false, Bool.false_or, Bool.true_or, Bool.false_eq_true, ↓reduceIte, Nat.le_refl, Nat.zero_le, true_and, and_true, Nat.reduceLeDiff, Nat.reduceAdd, Nat.add_zero, Nat.zero_add, List.length_cons, List.length_nil, List.set_cons_zero, List.set_cons_succ, Nat.reduceLT, s_fi, s_fl, s_fo, s_fa, s_f0, s_f1, s_set, s_ss, lg_cmp_ge, lg_cmp_le, lg_cmp_gt, lg_cmp_lt, lg_cmp_eq, s_brT, s_brF, s_10, w_Ou_addsSimple, r_Ou_addsSimple, l_Ou_addsSimple_0, l_Ou_addsSimple_55, l_Ou_addsSimple_56, f_4_50, ml_4_102, w_Ou_addsContours, ml_4_105, w_Ou_readsFlags, f_4_9, kc_2, kb_16, ml_4_108, w_Ou_readsAxis, f_4_15, kc_4, kb_32, kc_1, kc_0, O1']
  refine q_c0 (Nat.le_refl _) (Nat.le_refl _) ?_
  refine c_Ou_readsFlags hs N512.1 hpf (by omega) ⟨by omega, by omega, by omega, by omega⟩ B1 O1 A3 C1 (fun f1 px fs h2 b3 t2 B3 L3 C2 => ?_) (fun fs h2 b3 p' ro hro t2 B3 C2 => ?_)
  rotate_left
  · simp -implicitDefEqProofs only [s_go, s_nil, s_cons, q_ins, s_op, s_i, s_j, s_a, s_v, s_li, s_lj, s_la, s_liO, s_ljO, s_laO, q_get, q_p1, q_p2, s_n2i, s_n2r, s_n2l, s_n2n, q_pad, q_ar, s_ob, s_obO, q_nth, s_ri, s_riO, s_rb, s_rbO, s_rzO, s_rl, s_rlO, s_rq, s_rqO, s_ry, s_ryO, s_dn, s_tl, s_tn, s_ap, s_an, s_ci, s_cr, s_ni, s_n0, s_n1, q_ags, q_cat, List.contains_nil, List.contains_cons, Nat.reduceBEq, Bool.or_false, Bool.false_or, Bool.true_or, Bool.false_eq_true, ↓reduceIte, Nat.le_refl, Nat.zero_le, true_and, and_true, Nat.reduceLeDiff, Nat.reduceAdd, Nat.add_zero, Nat.zero_add, List.length_cons, List.length_nil, List.set_cons_zero, List.set_cons_succ, Nat.reduceLT, s_fi, s_fl, s_fo, s_fa, s_f0, s_f1, s_set, s_ss, lg_cmp_ge, lg_cmp_le, lg_cmp_gt, lg_cmp_lt, lg_cmp_eq, s_brT, s_brF, s_10, w_Ou_addsSimple, r_Ou_addsSimple, l_Ou_addsSimple_0, l_Ou_addsSimple_55, l_Ou_addsSimple_56, f_4_50, ml_4_102, w_Ou_addsContours, ml_4_105, w_Ou_readsFlags, f_4_9, kc_2, kb_16, ml_4_108, w_Ou_readsAxis, f_4_15, kc_4, kb_32, kc_1, kc_0]
    rw [eN] at fs
    exact q0 (fun z => by obtain ⟨-, f', px', y, -⟩ := z; exact fs f' px' y) h2 _ _ p' ro (fun b hb => (t2 b (by omega) (by omega)).trans (T1 b hb)) ((t2 u (by omega) (by omega)).trans O1) ⟨g1, g2, b3, b4, (t2 _ (by omega) (by omega)).trans A1, (t2 _ (by omega) (by omega)).trans A2, B3, (t2 _ (by omega) (by omega)).trans A4⟩ C2 hro
  rw [eN] at fs L3
  have T2 : q_f5 h h2 u := fun b hb => (t2 b (by omega) (by omega)).trans (T1 b hb)
  have B2 : q_By h2 f row m g sz F := hB.mv (T2 f hnf) (T2 row hnr)
  have O2 := (t2 u (by omega) (by omega)).trans O1
  have O2' := O2
  unfold e_Ou at O2'
  have D1 : q_ar5 h2 (u + 1) g1 := (t2 _ (by omega) (by omega)).trans A1
  have D2 : q_ar5 h2 (u + 2) g2 := (t2 _ (by omega) (by omega)).trans A2
  have D4 : q_ar5 h2 (u + 4) b4 := (t2 _ (by omega) (by omega)).trans A4
  have hpx := (FS_b hF hpf _ _ _ _ fs).2.2
  have hfl : ∀ j, j < first + CB F p0 C - first → FL F e (s_pf F p0 C) j < 256 ∧ b3 (first + j) = nI (FL F e (s_pf F p0 C) j) := fun j hj => ⟨FL_lt hF hpf j, L3.1 j (by omega)⟩
  simp -implicitDefEqProofs only [s_go, s_nil, s_cons, q_ins, s_op, s_i, s_j, s_a, s_v, s_li, s_lj, s_la, s_liO, s_ljO, s_laO, q_get, q_p1, q_p2, s_n2i, s_n2r, s_n2l, s_n2n, q_pad, q_ar, s_ob, s_obO, q_nth, s_ri, s_riO, s_rb, s_rbO, s_rzO, s_rl, s_rlO, s_rq, s_rqO, s_ry, s_ryO, s_dn, s_tl, s_tn, s_ap, s_an, s_ci, s_cr, s_ni, s_n0, s_n1, q_ags, q_cat, List.contains_nil, List.contains_cons, Nat.reduceBEq, Bool.or_false, Bool.false_or, Bool.true_or, Bool.false_eq_true, ↓reduceIte, Nat.le_refl, Nat.zero_le, true_and, and_true, Nat.reduceLeDiff, Nat.reduceAdd, Nat.add_zero, Nat.zero_add, List.length_cons, List.length_nil, List.set_cons_zero, List.set_cons_succ, Nat.reduceLT, s_fi, s_fl, s_fo, s_fa, s_f0, s_f1, s_set, s_ss, lg_cmp_ge, lg_cmp_le, lg_cmp_gt, lg_cmp_lt, lg_cmp_eq, s_brT, s_brF, s_10, w_Ou_addsSimple, r_Ou_addsSimple, l_Ou_addsSimple_0, l_Ou_addsSimple_55, l_Ou_addsSimple_56, f_4_50, ml_4_102, w_Ou_addsContours, ml_4_105, w_Ou_readsFlags, f_4_9, kc_2, kb_16, ml_4_108, w_Ou_readsAxis, f_4_15, kc_4, kb_32, kc_1, kc_0, O2']
  refine q_c0 (Nat.le_refl _) (Nat.le_refl _) ?_
  refine c_Ou_readsAxis (sb := 1) (eb := 4) hs N512.1 hpx (by omega) (Or.inl rfl) ⟨by omega, by omega⟩ ⟨by omega, by omega⟩ ⟨rfl, by omega⟩ ⟨rfl, by omega⟩ B2 O2 D1 C2 B3 hfl (fun v py ax h3 b1 t3 E1 L1 C3 => ?_) (fun ax h3 b1 p' ro hro t3 E1 C3 => ?_)
  rotate_left
  · simp -implicitDefEqProofs only [s_go, s_nil, s_cons, q_ins, s_op, s_i, s_j, s_a, s_v, s_li, s_lj, s_la, s_liO, s_ljO, s_laO, q_get, q_p1, q_p2, s_n2i, s_n2r, s_n2l, s_n2n, q_pad, q_ar, s_ob, s_obO, q_nth, s_ri, s_riO, s_rb, s_rbO, s_rzO, s_rl, s_rlO, s_rq, s_rqO, s_ry, s_ryO, s_dn, s_tl, s_tn, s_ap, s_an, s_ci, s_cr, s_ni, s_n0, s_n1, q_ags, q_cat, List.contains_nil, List.contains_cons, Nat.reduceBEq, Bool.or_false, Bool.false_or, Bool.true_or, Bool.false_eq_true, ↓reduceIte, Nat.le_refl, Nat.zero_le, true_and, and_true, Nat.reduceLeDiff, Nat.reduceAdd, Nat.add_zero, Nat.zero_add, List.length_cons, List.length_nil, List.set_cons_zero, List.set_cons_succ, Nat.reduceLT, s_fi, s_fl, s_fo, s_fa, s_f0, s_f1, s_set, s_ss, lg_cmp_ge, lg_cmp_le, lg_cmp_gt, lg_cmp_lt, lg_cmp_eq, s_brT, s_brF, s_10, w_Ou_addsSimple, r_Ou_addsSimple, l_Ou_addsSimple_0, l_Ou_addsSimple_55, l_Ou_addsSimple_56, f_4_50, ml_4_102, w_Ou_addsContours, ml_4_105, w_Ou_readsFlags, f_4_9, kc_2, kb_16, ml_4_108, w_Ou_readsAxis, f_4_15, kc_4, kb_32, kc_1, kc_0]
    rw [eN] at ax
    exact q0 (fun z => by obtain ⟨-, f', px', y, v, py, y2, -⟩ := z; rw [fs] at y; cases y; rw [ax] at y2; cases y2) h3 _ _ p' ro (fun b hb => (t3 b (by omega) (by omega)).trans (T2 b hb)) ((t3 u (by omega) (by omega)).trans O2) ⟨b1, g2, b3, b4, E1, (t3 _ (by omega) (by omega)).trans D2, (t3 _ (by omega) (by omega)).trans B3, (t3 _ (by omega) (by omega)).trans D4⟩ C3 hro
  rw [eN] at ax L1
  have T3 : q_f5 h h3 u := fun b hb => (t3 b (by omega) (by omega)).trans (T2 b hb)
  have B3' : q_By h3 f row m g sz F := hB.mv (T3 f hnf) (T3 row hnr)
  have O3 := (t3 u (by omega) (by omega)).trans O2
  have O3' := O3
  unfold e_Ou at O3'
  have E2 : q_ar5 h3 (u + 2) g2 := (t3 _ (by omega) (by omega)).trans D2
  have E3 : q_ar5 h3 (u + 3) b3 := (t3 _ (by omega) (by omega)).trans B3
  have E4 : q_ar5 h3 (u + 4) b4 := (t3 _ (by omega) (by omega)).trans D4
  have hpy := (AS_b hpx _ _ _ ax).2
  simp -implicitDefEqProofs only [s_go, s_nil, s_cons, q_ins, s_op, s_i, s_j, s_a, s_v, s_li, s_lj, s_la, s_liO, s_ljO, s_laO, q_get, q_p1, q_p2, s_n2i, s_n2r, s_n2l, s_n2n, q_pad, q_ar, s_ob, s_obO, q_nth, s_ri, s_riO, s_rb, s_rbO, s_rzO, s_rl, s_rlO, s_rq, s_rqO, s_ry, s_ryO, s_dn, s_tl, s_tn, s_ap, s_an, s_ci, s_cr, s_ni, s_n0, s_n1, q_ags, q_cat, List.contains_nil, List.contains_cons, Nat.reduceBEq, Bool.or_false, Bool.false_or, Bool.true_or, Bool.false_eq_true, ↓reduceIte, Nat.le_refl, Nat.zero_le, true_and, and_true, Nat.reduceLeDiff, Nat.reduceAdd, Nat.add_zero, Nat.zero_add, List.length_cons, List.length_nil, List.set_cons_zero, List.set_cons_succ, Nat.reduceLT, s_fi, s_fl, s_fo, s_fa, s_f0, s_f1, s_set, s_ss, lg_cmp_ge, lg_cmp_le, lg_cmp_gt, lg_cmp_lt, lg_cmp_eq, s_brT, s_brF, s_10, w_Ou_addsSimple, r_Ou_addsSimple, l_Ou_addsSimple_0, l_Ou_addsSimple_55, l_Ou_addsSimple_56, f_4_50, ml_4_102, w_Ou_addsContours, ml_4_105, w_Ou_readsFlags, f_4_9, kc_2, kb_16, ml_4_108, w_Ou_readsAxis, f_4_15, kc_4, kb_32, kc_1, kc_0, O3']
  refine q_c0 (Nat.le_refl _) (Nat.le_refl _) ?_
  refine c_Ou_readsAxis (sb := 2) (eb := 5) hs N512.1 hpy (by omega) (Or.inr rfl) ⟨by omega, by omega⟩ ⟨by omega, by omega⟩ ⟨rfl, by omega⟩ ⟨rfl, by omega⟩ B3' O3 E2 C3 E3 hfl (fun w pz ay h4 b2 t4 G2 L2 C4 => ?_) (fun ay h4 b2 p' ro hro t4 G2 C4 => ?_)
  rotate_left
  · simp -implicitDefEqProofs only [s_go, s_nil, s_cons, q_ins, s_op, s_i, s_j, s_a, s_v, s_li, s_lj, s_la, s_liO, s_ljO, s_laO, q_get, q_p1, q_p2, s_n2i, s_n2r, s_n2l, s_n2n, q_pad, q_ar, s_ob, s_obO, q_nth, s_ri, s_riO, s_rb, s_rbO, s_rzO, s_rl, s_rlO, s_rq, s_rqO, s_ry, s_ryO, s_dn, s_tl, s_tn, s_ap, s_an, s_ci, s_cr, s_ni, s_n0, s_n1, q_ags, q_cat, List.contains_nil, List.contains_cons, Nat.reduceBEq, Bool.or_false, Bool.false_or, Bool.true_or, Bool.false_eq_true, ↓reduceIte, Nat.le_refl, Nat.zero_le, true_and, and_true, Nat.reduceLeDiff, Nat.reduceAdd, Nat.add_zero, Nat.zero_add, List.length_cons, List.length_nil, List.set_cons_zero, List.set_cons_succ, Nat.reduceLT, s_fi, s_fl, s_fo, s_fa, s_f0, s_f1, s_set, s_ss, lg_cmp_ge, lg_cmp_le, lg_cmp_gt, lg_cmp_lt, lg_cmp_eq, s_brT, s_brF, s_10, w_Ou_addsSimple, r_Ou_addsSimple, l_Ou_addsSimple_0, l_Ou_addsSimple_55, l_Ou_addsSimple_56, f_4_50, ml_4_102, w_Ou_addsContours, ml_4_105, w_Ou_readsFlags, f_4_9, kc_2, kb_16, ml_4_108, w_Ou_readsAxis, f_4_15, kc_4, kb_32, kc_1, kc_0]
    rw [eN] at ay
    exact q0 (fun z => by obtain ⟨-, f', px', y, v', py', y2, w', pz', y3⟩ := z; rw [fs] at y; cases y; rw [ax] at y2; cases y2; rw [ay] at y3; cases y3) h4 _ _ p' ro (fun b hb => (t4 b (by omega) (by omega)).trans (T3 b hb)) ((t4 u (by omega) (by omega)).trans O3) ⟨b1, b2, b3, b4, (t4 _ (by omega) (by omega)).trans E1, G2, (t4 _ (by omega) (by omega)).trans E3, (t4 _ (by omega) (by omega)).trans E4⟩ C4 hro
  rw [eN] at ay L2
  simp -implicitDefEqProofs only [s_go, s_nil, s_cons, q_ins, s_op, s_i, s_j, s_a, s_v, s_li, s_lj, s_la, s_liO, s_ljO, s_laO, q_get, q_p1, q_p2, s_n2i, s_n2r, s_n2l, s_n2n, q_pad, q_ar, s_ob, s_obO, q_nth, s_ri, s_riO, s_rb, s_rbO, s_rzO, s_rl, s_rlO, s_rq, s_rqO, s_ry, s_ryO, s_dn, s_tl, s_tn, s_ap, s_an, s_ci, s_cr, s_ni, s_n0, s_n1, q_ags, q_cat, List.contains_nil, List.contains_cons, Nat.reduceBEq, Bool.or_false, Bool.false_or, Bool.true_or, Bool.false_eq_true, ↓reduceIte, Nat.le_refl, Nat.zero_le, true_and, and_true, Nat.reduceLeDiff, Nat.reduceAdd, Nat.add_zero, Nat.zero_add, List.length_cons, List.length_nil, List.set_cons_zero, List.set_cons_succ, Nat.reduceLT, s_fi, s_fl, s_fo, s_fa, s_f0, s_f1, s_set, s_ss, lg_cmp_ge, lg_cmp_le, lg_cmp_gt, lg_cmp_lt, lg_cmp_eq, s_brT, s_brF, s_10, w_Ou_addsSimple, r_Ou_addsSimple, l_Ou_addsSimple_0, l_Ou_addsSimple_55, l_Ou_addsSimple_56, f_4_50, ml_4_102, w_Ou_addsContours, ml_4_105, w_Ou_readsFlags, f_4_9, kc_2, kb_16, ml_4_108, w_Ou_readsAxis, f_4_15, kc_4, kb_32, kc_1, kc_0]
  exact q1 cs f1 px v py w pz fs ax ay h4 b1 b2 b3 b4 (fun b hb => (t4 b (by omega) (by omega)).trans (T3 b hb)) ((t4 u (by omega) (by omega)).trans O3) ((t4 _ (by omega) (by omega)).trans E1) G2 ((t4 _ (by omega) (by omega)).trans E3) ((t4 _ (by omega) (by omega)).trans E4) L1 L2 L3 L4 ⟨pz, C4⟩
