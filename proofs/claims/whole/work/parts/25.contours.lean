/-! Outline.addsContours -/
/-- the last point of contour k -/
def CE (F : Nat → Nat) (p0 k : Nat) : Nat := w2 F (p0 + 2 * k)
/-- how many points the contours below k have -/
def CB (F : Nat → Nat) (p0 k : Nat) : Nat := if k = 0 then 0 else CE F p0 (k - 1) + 1
def C1_ok (F : Nat → Nat) (e p0 first k : Nat) : Prop := p0 + 2 * k + 2 ≤ e ∧ CB F p0 k ≤ CE F p0 k ∧ CE F p0 k < 256 ∧ first + CE F p0 k < 512
/-- the contour of point i: the first whose last point isn't below it -/
def RIr (F : Nat → Nat) (p0 i : Nat) : Nat → Nat → Nat
  | k, 0 => k
  | k, r + 1 => if i ≤ CE F p0 k then k else RIr F p0 i (k + 1) r
def RI (F : Nat → Nat) (p0 C i : Nat) : Nat := RIr F p0 i 0 C
theorem RIr_at {F : Nat → Nat} {p0 i K : Nat} (h1 : CB F p0 K ≤ i) (h2 : i ≤ CE F p0 K) (hr : ∀ k, k < K → CE F p0 k < CB F p0 K) : ∀ (r k : Nat), k ≤ K → K < k + r → RIr F p0 i k r = K
  | 0, k, a, b => by omega
  | r + 1, k, a, b => by
    unfold RIr
    rcases Nat.lt_or_ge k K with y | y
    · have := hr k y
      rw [if_neg (by omega)]
      exact RIr_at h1 h2 hr r (k + 1) (by omega) (by omega)
    · have : k = K := by omega
      subst this
      rw [if_pos h2]
-- the inner loop: one contour's points
set_option maxRecDepth 100000 in
set_option maxHeartbeats 4000000 in
theorem i_Ou_addsContours {G : q_G} {l : Launch} {d u n first last b k cts : Nat} {x1 x3 pts prd wg : Int32} {g0 : Nat → Int32} {h : q_H} {Q : q_P} (hO : h u = some (e_Ou u pts (nI cts) prd wg)) (hfl : first + last < 512) (hk : k < 100) (hc : cts < 100000)
    (kk : ∀ h2 g2, q_1 h h2 (u + 4) → q_ar5 h2 (u + 4) g2 → (∀ j, b ≤ j → j ≤ last → g2 (first + j) = nI (cts + k)) → (∀ j, (j < first + b ∨ first + last < j) → g2 j = g0 j) → q_Z G l M_Ou_addsContours (d + 1) 0 0 Q 85 [some (.ref u), some (.int x1), some (.int (nI first)), some (.int x3), some (.int (nI k)), some (.int (nI last)), none] [] h2 n 0 0) :
    ∀ (r i : Nat) (h' : q_H) (ga : Nat → Int32), i + r = last + 1 → b ≤ i → q_1 h h' (u + 4) → q_ar5 h' (u + 4) ga → (∀ j, b ≤ j → j < i → ga (first + j) = nI (cts + k)) → (∀ j, (j < first + b ∨ first + i ≤ j) → ga j = g0 j) → q_Z G l M_Ou_addsContours (d + 1) 0 0 Q 56 [some (.ref u), some (.int x1), some (.int (nI first)), some (.int x3), some (.int (nI k)), some (.int (nI last)), some (.int (nI i))] [] h' n 0 0 := by
  intro r
  induction r with
  | zero =>
    intro i h' ga hi hb f1 A1 L1 L2
    refine q_at o_Ou_addsContours [56, 85] 20 l_Ou_addsContours_56 ?_
    simp -implicitDefEqProofs only [s_go, s_nil, s_cons, q_ins, s_op, s_i, s_j, s_a, s_v, s_li, s_lj, s_la, s_liO, s_ljO, s_laO, q_get, q_p1, q_p2, s_n2i, s_n2r, s_n2l, s_n2n, q_pad, q_ar, s_ob, s_obO, q_nth, s_ri, s_riO, s_rb, s_rbO, s_rzO, s_rl, s_rlO, s_rq, s_rqO, s_ry, s_ryO, s_dn, s_tl, s_tn, s_ap, s_an, s_ci, s_cr, s_ni, s_n0, s_n1, q_ags, q_cat, List.contains_nil, List.contains_cons, Nat.reduceBEq, Bool.or_false, Bool.false_or, Bool.true_or, Bool.false_eq_true, ↓reduceIte, Nat.le_refl, Nat.zero_le, true_and, and_true, Nat.reduceLeDiff, Nat.reduceAdd, Nat.add_zero, Nat.zero_add, List.length_cons, List.length_nil, List.set_cons_zero, List.set_cons_succ, Nat.reduceLT, s_fi, s_fl, s_fo, s_fa, s_f0, s_f1, s_set, s_ss, lg_cmp_ge, lg_cmp_le, lg_cmp_gt, lg_cmp_lt, lg_cmp_eq, s_brT, s_brF, s_10, w_Ou_addsContours, r_Ou_addsContours, l_Ou_addsContours_0, l_Ou_addsContours_10, l_Ou_addsContours_49, l_Ou_addsContours_51, l_Ou_addsContours_56, l_Ou_addsContours_85, l_Ou_addsContours_94, l_Ou_addsContours_141, l_Ou_addsContours_142, f_4_50, kc_m1, kc_0, f_4_29, ml_4_78, w_Cu_u16, ks_256, ks_512, kc_1, f_4_21, f_4_53, ty_4_6, ty_4_7, ml_4_82, w_Cu_pass, f_4_86]
    refine ⟨fun _ => q_wk (kk h' ga f1 A1 (fun j g1 g2 => L1 j g1 (by omega)) (fun j g1 => L2 j (by omega))) ⟨rfl, rfl, rfl, rfl, rfl, rfl, trivial⟩, fun c => absurd ((nI_ltI (by omega) (by omega)).mpr (by omega)) c⟩
  | succ r ih =>
    intro i h' ga hi hb f1 A1 L1 L2
    have O1 := (f1 u (by omega)).trans hO
    unfold e_Ou at O1
    have A1' : h' (u + 4) = some (.inl (0, 512, .inl ga)) := A1
    refine q_at o_Ou_addsContours [56, 85] 20 l_Ou_addsContours_56 ?_
    simp -implicitDefEqProofs only [s_go, s_nil, s_cons, q_ins, s_op, s_i, s_j, s_a, s_v, s_li, s_lj, s_la, s_liO, s_ljO, s_laO, q_get, q_p1, q_p2, s_n2i, s_n2r, s_n2l, s_n2n, q_pad, q_ar, s_ob, s_obO, q_nth, s_ri, s_riO, s_rb, s_rbO, s_rzO, s_rl, s_rlO, s_rq, s_rqO, s_ry, s_ryO, s_dn, s_tl, s_tn, s_ap, s_an, s_ci, s_cr, s_ni, s_n0, s_n1, q_ags, q_cat, List.contains_nil, List.contains_cons, Nat.reduceBEq, Bool.or_false, Bool.false_or, Bool.true_or, Bool.false_eq_true, ↓reduceIte, Nat.le_refl, Nat.zero_le, true_and, and_true, Nat.reduceLeDiff, Nat.reduceAdd, Nat.add_zero, Nat.zero_add, List.length_cons, List.length_nil, List.set_cons_zero, List.set_cons_succ, Nat.reduceLT, s_fi, s_fl, s_fo, s_fa, s_f0, s_f1, s_set, s_ss, lg_cmp_ge, lg_cmp_le, lg_cmp_gt, lg_cmp_lt, lg_cmp_eq, s_brT, s_brF, s_10, w_Ou_addsContours, r_Ou_addsContours, l_Ou_addsContours_0, l_Ou_addsContours_10, l_Ou_addsContours_49, l_Ou_addsContours_51, l_Ou_addsContours_56, l_Ou_addsContours_85, l_Ou_addsContours_94, l_Ou_addsContours_141, l_Ou_addsContours_142, f_4_50, kc_m1, kc_0, f_4_29, ml_4_78, w_Cu_u16, ks_256, ks_512, kc_1, f_4_21, f_4_53, ty_4_6, ty_4_7, ml_4_82, w_Cu_pass, f_4_86, O1, A1', nI_add, nI_1, nI_clamp (show first + i < 2 ^ 31 by omega)]
    refine ⟨fun c => absurd ((nI_ltI (by omega) (by omega)).mp c) (by omega), fun _ => ⟨vp_in_nI (by omega) (by omega), ?_⟩⟩
    refine ih (i + 1) _ _ (by omega) (by omega) (fun x c1 => by rw [s_ne _ _ c1]; exact f1 x c1) (s_set _ _ _) (fun j g1 g2 => ?_) (fun j g1 => ?_)
    · rcases Nat.lt_or_ge j i with y | y
      · rw [pk_un (by omega)]; exact L1 j g1 y
      · have : j = i := by omega
        subst this
        exact pk_us
    · rw [pk_un (by omega)]; exact L2 j (by omega)
def q_cb (F : Nat → Nat) (p0 k : Nat) : Int32 := iI ((CB F p0 k : Int) - 1)
/-- what addsContours asks -/
def CS_ok (F : Nat → Nat) (e p0 first C : Nat) : Prop := (∀ k, k < C → C1_ok F e p0 first k) ∧ p0 + 2 * C + 2 ≤ e ∧ p0 + 2 * C + 2 + w2 F (p0 + 2 * C) ≤ e
/-- the contours' numbers of the points first .. first + k -/
def CTs (F : Nat → Nat) (p0 first cts C k : Nat) (g0 g : Nat → Int32) : Prop := (∀ j, j < k → g (first + j) = nI (cts + RI F p0 C j)) ∧ ∀ j, j < first → g j = g0 j
-- behind the loop: how many points, the bytes that are passed over
set_option maxRecDepth 100000 in
set_option maxHeartbeats 4000000 in
theorem e_Ou_addsContours {G : q_G} {l : Launch} {d u f row m n sz first C p e : Nat} {x4 pts prd wg cts ro bf : Int32} {g : Nat → Int32} {F : Nat → Nat} {h : q_H} {Q : q_P} (hs : e ≤ sz) (hpe : p ≤ e) (h5 : u + 5 ≠ f ∧ u + 5 ≠ row ∧ u ≠ f ∧ u ≠ row) (hO : h u = some (e_Ou u pts cts prd wg)) (hB : q_By h f row m g sz F) (hC : q_Cu h (u + 5) f p e ro) (hro : ro = 0 ∨ ro = 1)
    (q1 : ro = 0 → p + 2 ≤ e → p + 2 + w2 F p ≤ e → ∀ h', q_2 h h' u (u + 5) → h' u = some (e_Ou u (nI first + bf + 1) (cts + nI C) prd wg) → q_Cu h' (u + 5) f (p + 2 + w2 F p) e 0 → Q (some (.int 1)) h' n)
    (q0 : ¬ (ro = 0 ∧ p + 2 ≤ e ∧ p + 2 + w2 F p ≤ e) → ∀ h' p' pts cts, q_2 h h' u (u + 5) → h' u = some (e_Ou u pts cts prd wg) → q_Cu h' (u + 5) f p' e 1 → Q (some (.int 0)) h' n) :
    q_Z G l M_Ou_addsContours (d + 1) 0 0 Q 94 [some (.ref u), some (.int (nI C)), some (.int (nI first)), some (.int bf), some (.int x4), none, none] [] h n 0 0 := by
  have hF := hB.2.2.2.2.2.2
  have hs' : sz ≤ 16384 := Nat.le_trans hB.2.2.1 hB.2.2.2.1
  have hO' := hO
  unfold e_Ou at hO'
  have hC' : h (u + 5) = some (.inr (2, [.ref f, .int (nI p), .int (nI e), .int ro])) := hC
  have u5 : u + 5 ≠ u := by omega
  refine q_at o_Ou_addsContours [] 20 l_Ou_addsContours_94 ?_
  simp -implicitDefEqProofs only [s_go, s_nil, s_cons, q_ins, s_op, s_i, s_j, s_a, s_v, s_li, s_lj, s_la, s_liO, s_ljO, s_laO, q_get, q_p1, q_p2, s_n2i, s_n2r, s_n2l, s_n2n, q_pad, q_ar, s_ob, s_obO, q_nth, s_ri, s_riO, s_rb, s_rbO, s_rzO, s_rl, s_rlO, s_rq, s_rqO, s_ry, s_ryO, s_dn, s_tl, s_tn, s_ap, s_an, s_ci, s_cr, s_ni, s_n0, s_n1, q_ags, q_cat, List.contains_nil, List.contains_cons, Nat.reduceBEq, Bool.or_false, Bool.false_or, Bool.true_or, Bool.false_eq_true, ↓reduceIte, Nat.le_refl, Nat.zero_le, true_and, and_true, Nat.reduceLeDiff, Nat.reduceAdd, Nat.add_zero, Nat.zero_add, List.length_cons, List.length_nil, List.set_cons_zero, List.set_cons_succ, Nat.reduceLT, s_fi, s_fl, s_fo, s_fa, s_f0, s_f1, s_set, s_ss, lg_cmp_ge, lg_cmp_le, lg_cmp_gt, lg_cmp_lt, lg_cmp_eq, s_brT, s_brF, s_10, w_Ou_addsContours, r_Ou_addsContours, l_Ou_addsContours_0, l_Ou_addsContours_10, l_Ou_addsContours_49, l_Ou_addsContours_51, l_Ou_addsContours_56, l_Ou_addsContours_85, l_Ou_addsContours_94, l_Ou_addsContours_141, l_Ou_addsContours_142, f_4_50, kc_m1, kc_0, f_4_29, ml_4_78, w_Cu_u16, ks_256, ks_512, kc_1, f_4_21, f_4_53, ty_4_6, ty_4_7, ml_4_82, w_Cu_pass, f_4_86, hO', s_ne _ _ u5, hC']
  refine q_c0 (Nat.le_refl _) (Nat.le_refl _) ?_
  generalize hh1 : q_set h u _ = h1
  have O1 : h1 u = some (e_Ou u (nI first + bf + 1) (cts + nI C) prd wg) := by rw [← hh1]; exact s_set _ _ _
  have f1 : q_1 h h1 u := fun b hb => by rw [← hh1]; exact s_ne _ _ hb
  have C1 : q_Cu h1 (u + 5) f p e ro := (f1 _ u5).trans hC
  have B1 := hB.mv (f1 f (by omega)) (f1 row (by omega))
  refine c_Cu_u16X C1 B1 hs hpe (fun h2 v p2 r2 t2 C2 R2 => ?_)
  have hv : v < 65536 := by have := w2_lt hF p; omega
  have O2 : h2 u = some (e_Ou u (nI first + bf + 1) (cts + nI C) prd wg) := (t2 u (by omega)).trans O1
  have O2' := O2
  unfold e_Ou at O2'
  have C2' : h2 (u + 5) = some (.inr (2, [.ref f, .int (nI p2), .int (nI e), .int r2])) := C2
  have t2' : q_2 h h2 u (u + 5) := fun b b1 b2 => (t2 b b2).trans (f1 b b1)
  simp -implicitDefEqProofs only [s_go, s_nil, s_cons, q_ins, s_op, s_i, s_j, s_a, s_v, s_li, s_lj, s_la, s_liO, s_ljO, s_laO, q_get, q_p1, q_p2, s_n2i, s_n2r, s_n2l, s_n2n, q_pad, q_ar, s_ob, s_obO, q_nth, s_ri, s_riO, s_rb, s_rbO, s_rzO, s_rl, s_rlO, s_rq, s_rqO, s_ry, s_ryO, s_dn, s_tl, s_tn, s_ap, s_an, s_ci, s_cr, s_ni, s_n0, s_n1, q_ags, q_cat, List.contains_nil, List.contains_cons, Nat.reduceBEq, Bool.or_false, Bool.false_or, Bool.true_or, Bool.false_eq_true, ↓reduceIte, Nat.le_refl, Nat.zero_le, true_and, and_true, Nat.reduceLeDiff, Nat.reduceAdd, Nat.add_zero, Nat.zero_add, List.length_cons, List.length_nil, List.set_cons_zero, List.set_cons_succ, Nat.reduceLT, s_fi, s_fl, s_fo, s_fa, s_f0, s_f1, s_set, s_ss, lg_cmp_ge, lg_cmp_le, lg_cmp_gt, lg_cmp_lt, lg_cmp_eq, s_brT, s_brF, s_10, w_Ou_addsContours, r_Ou_addsContours, l_Ou_addsContours_0, l_Ou_addsContours_10, l_Ou_addsContours_49, l_Ou_addsContours_51, l_Ou_addsContours_56, l_Ou_addsContours_85, l_Ou_addsContours_94, l_Ou_addsContours_141, l_Ou_addsContours_142, f_4_50, kc_m1, kc_0, f_4_29, ml_4_78, w_Cu_u16, ks_256, ks_512, kc_1, f_4_21, f_4_53, ty_4_6, ty_4_7, ml_4_82, w_Cu_pass, f_4_86, O2', C2']
  refine q_c0 (Nat.le_refl _) (Nat.le_refl _) ?_
  have fin : ∀ h3 p3 r3, q_1 h2 h3 (u + 5) → q_Cu h3 (u + 5) f p3 e r3 → ((ro = 0 ∧ p + 2 ≤ e ∧ p + 2 + w2 F p ≤ e ∧ r3 = 0 ∧ p3 = p + 2 + w2 F p) ∨ (¬ (ro = 0 ∧ p + 2 ≤ e ∧ p + 2 + w2 F p ≤ e) ∧ r3 = 1)) → q_blk G l M_Ou_addsContours (d + 1) 0 0 Q (q_go G l M_Ou_addsContours (d + 1) 0 0 Q B_Ou_addsContours [] 20) 141 [(.aload_n ⟨0, q_l04⟩, 127, 0), (.getfield 29, 128, 0), (.getfield 86, 131, 0), (.ifCond .ne 7, 134, 141), (.iconst 1, 137, 0), (.goto 4, 138, 142)] [some (.ref u), some (.int (nI C)), some (.int (nI first)), some (.int bf), some (.int x4), none, none] [] h3 n 0 0 := by
    intro h3 p3 r3 t3 C3 R3
    have O3 : h3 u = some (e_Ou u (nI first + bf + 1) (cts + nI C) prd wg) := (t3 u (by omega)).trans O2
    have O3' := O3
    unfold e_Ou at O3'
    have C3' : h3 (u + 5) = some (.inr (2, [.ref f, .int (nI p3), .int (nI e), .int r3])) := C3
    have t3' : q_2 h h3 u (u + 5) := fun b b1 b2 => (t3 b b2).trans (t2' b b1 b2)
    simp -implicitDefEqProofs only [s_go, s_nil, s_cons, q_ins, s_op, s_i, s_j, s_a, s_v, s_li, s_lj, s_la, s_liO, s_ljO, s_laO, q_get, q_p1, q_p2, s_n2i, s_n2r, s_n2l, s_n2n, q_pad, q_ar, s_ob, s_obO, q_nth, s_ri, s_riO, s_rb, s_rbO, s_rzO, s_rl, s_rlO, s_rq, s_rqO, s_ry, s_ryO, s_dn, s_tl, s_tn, s_ap, s_an, s_ci, s_cr, s_ni, s_n0, s_n1, q_ags, q_cat, List.contains_nil, List.contains_cons, Nat.reduceBEq, Bool.or_false, Bool.false_or, Bool.true_or, Bool.false_eq_true, ↓reduceIte, Nat.le_refl, Nat.zero_le, true_and, and_true, Nat.reduceLeDiff, Nat.reduceAdd, Nat.add_zero, Nat.zero_add, List.length_cons, List.length_nil, List.set_cons_zero, List.set_cons_succ, Nat.reduceLT, s_fi, s_fl, s_fo, s_fa, s_f0, s_f1, s_set, s_ss, lg_cmp_ge, lg_cmp_le, lg_cmp_gt, lg_cmp_lt, lg_cmp_eq, s_brT, s_brF, s_10, w_Ou_addsContours, r_Ou_addsContours, l_Ou_addsContours_0, l_Ou_addsContours_10, l_Ou_addsContours_49, l_Ou_addsContours_51, l_Ou_addsContours_56, l_Ou_addsContours_85, l_Ou_addsContours_94, l_Ou_addsContours_141, l_Ou_addsContours_142, f_4_50, kc_m1, kc_0, f_4_29, ml_4_78, w_Cu_u16, ks_256, ks_512, kc_1, f_4_21, f_4_53, ty_4_6, ty_4_7, ml_4_82, w_Cu_pass, f_4_86, O3', C3']
    rcases R3 with ⟨y1, y2, y3, y4, y5⟩ | ⟨y1, y2⟩
    · subst y4; subst y5
      exact ⟨fun _ => q1 y1 y2 y3 h3 t3' O3 C3, fun z => absurd rfl z⟩
    · subst y2
      exact ⟨fun z => absurd z (by decide), fun _ => q0 y1 h3 p3 _ _ t3' O3 C3⟩
  refine c_Cu_pass C2 (by omega) (by omega) hv (fun y => ?_) (fun y => ?_)
  · refine fin _ (p2 + v) r2 (fun b hb => s_ne _ _ hb) (s_set _ _ _) ?_
    rcases R2 with ⟨z1, z2, z3, z4⟩ | ⟨z1, z2, z3, z4⟩
    · subst z2; subst z3
      rcases hro with w | w
      · exact Or.inl ⟨w, z1, y, z4.trans w, rfl⟩
      · exact Or.inr ⟨fun q => by rw [w] at q; exact absurd q.1 (by decide), z4.trans w⟩
    · exact Or.inr ⟨fun q => by have := q.2.1; omega, z4⟩
  · refine fin _ p2 1 (fun b hb => s_ne _ _ hb) (s_set _ _ _) (Or.inr ⟨fun q => ?_, rfl⟩)
    rcases R2 with ⟨z1, z2, z3, z4⟩ | ⟨z1, z2, z3, z4⟩
    · have := q.2.2; omega
    · have := q.2.1; omega
def q_3 (h h' : q_H) (a b c : Nat) : Prop := ∀ x, x ≠ a → x ≠ b → x ≠ c → h' x = h x
set_option maxRecDepth 100000 in
set_option maxHeartbeats 4000000 in
theorem z_Ou_addsContours {G : q_G} {l : Launch} {d u f row m n sz first C p0 e cts : Nat} {pts prd wg : Int32} {g g0 : Nat → Int32} {F : Nat → Nat} {h : q_H} {Q : q_P} (hs : e ≤ sz) (hC32 : C ≤ 32) (hcts : cts < 1000) (hfirst : first ≤ 512) (hne : u ≠ f ∧ u ≠ row ∧ u + 4 ≠ f ∧ u + 4 ≠ row ∧ u + 5 ≠ f ∧ u + 5 ≠ row) (hO : h u = some (e_Ou u pts (nI cts) prd wg)) (hB : q_By h f row m g sz F)
    (q1 : CS_ok F e p0 first C → ∀ h' g', q_3 h h' u (u + 4) (u + 5) → h' u = some (e_Ou u (nI (first + CB F p0 C)) (nI (cts + C)) prd wg) → q_ar5 h' (u + 4) g' → CTs F p0 first cts C (CB F p0 C) g0 g' → q_Cu h' (u + 5) f (p0 + 2 * C + 2 + w2 F (p0 + 2 * C)) e 0 → Q (some (.int 1)) h' n)
    (q0 : ¬ CS_ok F e p0 first C → ∀ h' g' pts cts p' ro, q_3 h h' u (u + 4) (u + 5) → h' u = some (e_Ou u pts cts prd wg) → q_ar5 h' (u + 4) g' → q_Cu h' (u + 5) f p' e ro → (ro = 0 ∨ ro = 1) → Q (some (.int 0)) h' n) :
    ∀ (r k : Nat) (h' : q_H) (ga : Nat → Int32), k + r = C → p0 + 2 * k ≤ e → (∀ j, j < k → C1_ok F e p0 first j) → q_2 h h' (u + 4) (u + 5) → q_ar5 h' (u + 4) ga → CTs F p0 first cts C (CB F p0 k) g0 ga → q_Cu h' (u + 5) f (p0 + 2 * k) e 0 → q_Z G l M_Ou_addsContours (d + 1) 0 0 Q 10 [some (.ref u), some (.int (nI C)), some (.int (nI first)), some (.int (q_cb F p0 k)), some (.int (nI k)), none, none] [] h' n 0 0 := by
  have hF := hB.2.2.2.2.2.2
  have mvO : ∀ {h' : q_H}, q_2 h h' (u + 4) (u + 5) → h' u = some (e_Ou u pts (nI cts) prd wg) := fun f => (f u (by omega) (by omega)).trans hO
  have mvB : ∀ {h' : q_H}, q_2 h h' (u + 4) (u + 5) → q_By h' f row m g sz F := fun f1 => hB.mv (f1 f (by omega) (by omega)) (f1 row (by omega) (by omega))
  have to3 : ∀ {h' h2 : q_H}, q_2 h h' (u + 4) (u + 5) → q_2 h' h2 u (u + 5) → q_3 h h2 u (u + 4) (u + 5) := fun a b x c1 c2 c3 => (b x c1 c3).trans (a x c2 c3)
  have t3 : ∀ {h' : q_H}, q_2 h h' (u + 4) (u + 5) → q_3 h h' u (u + 4) (u + 5) := fun a x _ c2 c3 => a x c2 c3
  have CBs : ∀ k, CB F p0 (k + 1) = CE F p0 k + 1 := fun k => rfl
  intro r
  induction r with
  | zero =>
    intro k h' ga hk hp hall f1 A1 L1 C1
    have hkC : k = C := by omega
    subst hkC
    have O1 := mvO f1
    refine q_at o_Ou_addsContours [10, 94] 20 l_Ou_addsContours_10 ?_
    simp -implicitDefEqProofs only [s_go, s_nil, s_cons, q_ins, s_op, s_i, s_j, s_a, s_v, s_li, s_lj, s_la, s_liO, s_ljO, s_laO, q_get, q_p1, q_p2, s_n2i, s_n2r, s_n2l, s_n2n, q_pad, q_ar, s_ob, s_obO, q_nth, s_ri, s_riO, s_rb, s_rbO, s_rzO, s_rl, s_rlO, s_rq, s_rqO, s_ry, s_ryO, s_dn, s_tl, s_tn, s_ap, s_an, s_ci, s_cr, s_ni, s_n0, s_n1, q_ags, q_cat, List.contains_nil, List.contains_cons, Nat.reduceBEq, Bool.or_false, Bool.false_or, Bool.true_or, Bool.false_eq_true, ↓reduceIte, Nat.le_refl, Nat.zero_le, true_and, and_true, Nat.reduceLeDiff, Nat.reduceAdd, Nat.add_zero, Nat.zero_add, List.length_cons, List.length_nil, List.set_cons_zero, List.set_cons_succ, Nat.reduceLT, s_fi, s_fl, s_fo, s_fa, s_f0, s_f1, s_set, s_ss, lg_cmp_ge, lg_cmp_le, lg_cmp_gt, lg_cmp_lt, lg_cmp_eq, s_brT, s_brF, s_10, w_Ou_addsContours, r_Ou_addsContours, l_Ou_addsContours_0, l_Ou_addsContours_10, l_Ou_addsContours_49, l_Ou_addsContours_51, l_Ou_addsContours_56, l_Ou_addsContours_85, l_Ou_addsContours_94, l_Ou_addsContours_141, l_Ou_addsContours_142, f_4_50, kc_m1, kc_0, f_4_29, ml_4_78, w_Cu_u16, ks_256, ks_512, kc_1, f_4_21, f_4_53, ty_4_6, ty_4_7, ml_4_82, w_Cu_pass, f_4_86]
    refine ⟨fun _ => ?_, fun c => absurd (nI_le (by omega) (by omega)) c⟩
    refine e_Ou_addsContours hs hp ⟨by omega, by omega, by omega, by omega⟩ O1 (mvB f1) C1 (Or.inl rfl) (fun _ y1 y2 h2 t2 O2 C2 => ?_) (fun y h2 p' pts' cts' t2 O2 C2 => ?_)
    · refine q1 ⟨hall, y1, y2⟩ h2 ga (to3 f1 t2) ?_ ((t2 _ (by omega) (by omega)).trans A1) L1 C2
      rw [O2, nI_add]
      congr 2
      unfold q_cb
      rw [← iI_nat, iI_add, show (1 : Int32) = iI 1 from rfl, iI_add, ← iI_nat]
      congr 1
      omega
    · exact q0 (fun z => y ⟨rfl, z.2.1, z.2.2⟩) h2 ga _ _ p' 1 (to3 f1 t2) O2 ((t2 _ (by omega) (by omega)).trans A1) C2 (Or.inr rfl)
  | succ r ih =>
    intro k h' ga hk hp hall f1 A1 L1 C1
    have O1 := mvO f1
    have O1' := O1
    unfold e_Ou at O1'
    have C1' : h' (u + 5) = some (.inr (2, [.ref f, .int (nI (p0 + 2 * k)), .int (nI e), .int 0])) := C1
    have bE : CE F p0 k < 65536 := w2_lt hF _
    have bB : CB F p0 k ≤ 65536 := by unfold CB; split; omega; have : CE F p0 (k - 1) < 65536 := w2_lt hF _; omega
    refine q_at o_Ou_addsContours [10, 56, 94] 20 l_Ou_addsContours_10 ?_
    simp -implicitDefEqProofs only [s_go, s_nil, s_cons, q_ins, s_op, s_i, s_j, s_a, s_v, s_li, s_lj, s_la, s_liO, s_ljO, s_laO, q_get, q_p1, q_p2, s_n2i, s_n2r, s_n2l, s_n2n, q_pad, q_ar, s_ob, s_obO, q_nth, s_ri, s_riO, s_rb, s_rbO, s_rzO, s_rl, s_rlO, s_rq, s_rqO, s_ry, s_ryO, s_dn, s_tl, s_tn, s_ap, s_an, s_ci, s_cr, s_ni, s_n0, s_n1, q_ags, q_cat, List.contains_nil, List.contains_cons, Nat.reduceBEq, Bool.or_false, Bool.false_or, Bool.true_or, Bool.false_eq_true, ↓reduceIte, Nat.le_refl, Nat.zero_le, true_and, and_true, Nat.reduceLeDiff, Nat.reduceAdd, Nat.add_zero, Nat.zero_add, List.length_cons, List.length_nil, List.set_cons_zero, List.set_cons_succ, Nat.reduceLT, s_fi, s_fl, s_fo, s_fa, s_f0, s_f1, s_set, s_ss, lg_cmp_ge, lg_cmp_le, lg_cmp_gt, lg_cmp_lt, lg_cmp_eq, s_brT, s_brF, s_10, w_Ou_addsContours, r_Ou_addsContours, l_Ou_addsContours_0, l_Ou_addsContours_10, l_Ou_addsContours_49, l_Ou_addsContours_51, l_Ou_addsContours_56, l_Ou_addsContours_85, l_Ou_addsContours_94, l_Ou_addsContours_141, l_Ou_addsContours_142, f_4_50, kc_m1, kc_0, f_4_29, ml_4_78, w_Cu_u16, ks_256, ks_512, kc_1, f_4_21, f_4_53, ty_4_6, ty_4_7, ml_4_82, w_Cu_pass, f_4_86, O1', C1']
    refine ⟨fun c => absurd ((nI_leI (by omega) (by omega)).mp c) (by omega), fun _ => ?_⟩
    refine q_c0 (Nat.le_refl _) (Nat.le_refl _) ?_
    refine c_Cu_u16X C1 (mvB f1) hs hp (fun h2 v p2 r2 t2 C2 R2 => ?_)
    have f2 : q_2 h h2 (u + 4) (u + 5) := fun b b1 b2 => (t2 b b2).trans (f1 b b1 b2)
    have A2 : q_ar5 h2 (u + 4) ga := (t2 _ (by omega)).trans A1
    have O2 := mvO f2
    have O2' := O2
    unfold e_Ou at O2'
    have hv : v < 65536 := by have := w2_lt hF (p0 + 2 * k); omega
    simp -implicitDefEqProofs only [s_go, s_nil, s_cons, q_ins, s_op, s_i, s_j, s_a, s_v, s_li, s_lj, s_la, s_liO, s_ljO, s_laO, q_get, q_p1, q_p2, s_n2i, s_n2r, s_n2l, s_n2n, q_pad, q_ar, s_ob, s_obO, q_nth, s_ri, s_riO, s_rb, s_rbO, s_rzO, s_rl, s_rlO, s_rq, s_rqO, s_ry, s_ryO, s_dn, s_tl, s_tn, s_ap, s_an, s_ci, s_cr, s_ni, s_n0, s_n1, q_ags, q_cat, List.contains_nil, List.contains_cons, Nat.reduceBEq, Bool.or_false, Bool.false_or, Bool.true_or, Bool.false_eq_true, ↓reduceIte, Nat.le_refl, Nat.zero_le, true_and, and_true, Nat.reduceLeDiff, Nat.reduceAdd, Nat.add_zero, Nat.zero_add, List.length_cons, List.length_nil, List.set_cons_zero, List.set_cons_succ, Nat.reduceLT, s_fi, s_fl, s_fo, s_fa, s_f0, s_f1, s_set, s_ss, lg_cmp_ge, lg_cmp_le, lg_cmp_gt, lg_cmp_lt, lg_cmp_eq, s_brT, s_brF, s_10, w_Ou_addsContours, r_Ou_addsContours, l_Ou_addsContours_0, l_Ou_addsContours_10, l_Ou_addsContours_49, l_Ou_addsContours_51, l_Ou_addsContours_56, l_Ou_addsContours_85, l_Ou_addsContours_94, l_Ou_addsContours_141, l_Ou_addsContours_142, f_4_50, kc_m1, kc_0, f_4_29, ml_4_78, w_Cu_u16, ks_256, ks_512, kc_1, f_4_21, f_4_53, ty_4_6, ty_4_7, ml_4_82, w_Cu_pass, f_4_86, O2', nI_add]
    have ecb : q_cb F p0 k + 1 = nI (CB F p0 k) := by
      unfold q_cb
      rw [show (1 : Int32) = iI 1 from rfl, iI_add, ← iI_nat]
      congr 1
      omega
    rw [ecb, show (nI v ≤ q_cb F p0 k) = (v < CB F p0 k) from propext (by unfold q_cb; rw [← iI_nat, iI_le (by omega) (by omega)]; omega), show (256 : Int32) = nI 256 from rfl, show (512 : Int32) = nI 512 from rfl, nI_leI (by omega) (by omega), nI_ltI (by omega) (by omega)]
    rcases R2 with ⟨y1, y2, y3, y4⟩ | ⟨y1, y2, y3, y4⟩
    · have y2 : v = CE F p0 k := y2
      subst y2; subst y3; subst y4
      have no : ¬ (CB F p0 k ≤ CE F p0 k ∧ CE F p0 k < 256 ∧ first + CE F p0 k < 512) → Q (some (.int 0)) h2 n := fun z => q0 (fun w => z ⟨(w.1 k (by omega)).2.1, (w.1 k (by omega)).2.2.1, (w.1 k (by omega)).2.2.2⟩) h2 ga pts (nI cts) _ 0 (t3 f2) O2 A2 C2 (Or.inl rfl)
      refine ⟨fun c => no (fun z => by omega), fun c => ⟨fun c1 => no (fun z => by omega), fun c1 => ⟨fun c2 => ?_, fun c2 => no (fun z => by omega)⟩⟩⟩
      refine i_Ou_addsContours (b := CB F p0 k) (last := CE F p0 k) (g0 := ga) O2 c2 (by omega) (by omega) (fun h3 g3 t3' A3 X3 Y3 => ?_) (CE F p0 k + 1 - CB F p0 k) (CB F p0 k) h2 ga (by omega) (Nat.le_refl _) (fun _ _ => rfl) A2 (fun j g1 g2 => absurd g1 (by omega)) (fun j _ => rfl)
      have f3 : q_2 h h3 (u + 4) (u + 5) := fun b b1 b2 => (t3' b b1).trans (f2 b b1 b2)
      refine q_at o_Ou_addsContours [10] 20 l_Ou_addsContours_85 ?_
      simp -implicitDefEqProofs only [s_go, s_nil, s_cons, q_ins, s_op, s_i, s_j, s_a, s_v, s_li, s_lj, s_la, s_liO, s_ljO, s_laO, q_get, q_p1, q_p2, s_n2i, s_n2r, s_n2l, s_n2n, q_pad, q_ar, s_ob, s_obO, q_nth, s_ri, s_riO, s_rb, s_rbO, s_rzO, s_rl, s_rlO, s_rq, s_rqO, s_ry, s_ryO, s_dn, s_tl, s_tn, s_ap, s_an, s_ci, s_cr, s_ni, s_n0, s_n1, q_ags, q_cat, List.contains_nil, List.contains_cons, Nat.reduceBEq, Bool.or_false, Bool.false_or, Bool.true_or, Bool.false_eq_true, ↓reduceIte, Nat.le_refl, Nat.zero_le, true_and, and_true, Nat.reduceLeDiff, Nat.reduceAdd, Nat.add_zero, Nat.zero_add, List.length_cons, List.length_nil, List.set_cons_zero, List.set_cons_succ, Nat.reduceLT, s_fi, s_fl, s_fo, s_fa, s_f0, s_f1, s_set, s_ss, lg_cmp_ge, lg_cmp_le, lg_cmp_gt, lg_cmp_lt, lg_cmp_eq, s_brT, s_brF, s_10, w_Ou_addsContours, r_Ou_addsContours, l_Ou_addsContours_0, l_Ou_addsContours_10, l_Ou_addsContours_49, l_Ou_addsContours_51, l_Ou_addsContours_56, l_Ou_addsContours_85, l_Ou_addsContours_94, l_Ou_addsContours_141, l_Ou_addsContours_142, f_4_50, kc_m1, kc_0, f_4_29, ml_4_78, w_Cu_u16, ks_256, ks_512, kc_1, f_4_21, f_4_53, ty_4_6, ty_4_7, ml_4_82, w_Cu_pass, f_4_86, nI_1]
      have ok1 : ∀ j, j < k + 1 → C1_ok F e p0 first j := fun j hj => by
        rcases Nat.lt_or_ge j k with w | w
        · exact hall j w
        · have : j = k := by omega
          subst this
          exact ⟨y1, by omega, by omega, c2⟩
      refine q_wk (ih (k + 1) h3 g3 (by omega) (by omega) ok1 f3 A3 ⟨fun j hj => ?_, fun j hj => ?_⟩ ?_) ⟨rfl, rfl, rfl, ?_, rfl, trivial⟩
      · rw [CBs] at hj
        rcases Nat.lt_or_ge j (CB F p0 k) with w | w
        · rw [Y3 _ (by omega)]; exact L1.1 j w
        · rw [X3 j w (by omega)]
          congr 2
          refine (RIr_at w (by omega) (fun q hq => ?_) C 0 (by omega) (by omega)).symm
          -- earlier contours end below
          have mono : ∀ t, q + 1 + t ≤ k → CE F p0 q < CB F p0 (q + 1 + t) := by
            intro t
            induction t with
            | zero => intro _; rw [Nat.add_zero, CBs]; omega
            | succ t iht =>
              intro ht
              have h1 := iht (by omega)
              have h2 := (hall (q + 1 + t) (by omega)).2.1
              rw [show q + 1 + (t + 1) = q + 1 + t + 1 by omega, CBs]
              omega
          have := mono (k - (q + 1)) (by omega)
          rw [show q + 1 + (k - (q + 1)) = k by omega] at this
          exact this
      · rw [Y3 j (by omega)]; exact L1.2 j hj
      · exact (t3' _ (by omega)).trans C2
      · unfold q_cb
        rw [CBs, ← iI_nat]
        congr 3
        omega
    · subst y2; subst y3; subst y4
      have nok : ¬ CS_ok F e p0 first C := fun w => by have := (w.1 k (by omega)).1; omega
      have no : Q (some (.int 0)) h2 n := q0 nok h2 ga pts (nI cts) _ 1 (t3 f2) O2 A2 C2 (Or.inr rfl)
      refine ⟨fun c => no, fun c => ⟨fun c1 => absurd c1 (by omega), fun c1 => ⟨fun c2 => ?_, fun c2 => no⟩⟩⟩
      have hk0 : k = 0 := by
        rcases Nat.eq_zero_or_pos k with w | w
        · exact w
        · have : CB F p0 k = CE F p0 (k - 1) + 1 := by unfold CB; rw [if_neg (by omega)]
          omega
      subst hk0
      refine i_Ou_addsContours (b := 0) (last := 0) (g0 := ga) O2 c2 (by omega) (by omega) (fun h3 g3 t3' A3 X3 Y3 => ?_) 1 0 h2 ga (by omega) (Nat.le_refl _) (fun _ _ => rfl) A2 (fun j g1 g2 => absurd g2 (by omega)) (fun j _ => rfl)
      have f3 : q_2 h h3 (u + 4) (u + 5) := fun b b1 b2 => (t3' b b1).trans (f2 b b1 b2)
      have C3 : q_Cu h3 (u + 5) f (p0 + 2 * 0) e 1 := (t3' _ (by omega)).trans C2
      have O3 := mvO f3
      have O3' := O3
      unfold e_Ou at O3'
      have C3' : h3 (u + 5) = some (.inr (2, [.ref f, .int (nI (p0 + 2 * 0)), .int (nI e), .int 1])) := C3
      refine q_at o_Ou_addsContours [56, 94] 20 l_Ou_addsContours_85 ?_
      simp -implicitDefEqProofs only [s_go, s_nil, s_cons, q_ins, s_op, s_i, s_j, s_a, s_v, s_li, s_lj, s_la, s_liO, s_ljO, s_laO, q_get, q_p1, q_p2, s_n2i, s_n2r, s_n2l, s_n2n, q_pad, q_ar, s_ob, s_obO, q_nth, s_ri, s_riO, s_rb, s_rbO, s_rzO, s_rl, s_rlO, s_rq, s_rqO, s_ry, s_ryO, s_dn, s_tl, s_tn, s_ap, s_an, s_ci, s_cr, s_ni, s_n0, s_n1, q_ags, q_cat, List.contains_nil, List.contains_cons, Nat.reduceBEq, Bool.or_false, Bool.false_or, Bool.true_or, Bool.false_eq_true, ↓reduceIte, Nat.le_refl, Nat.zero_le, true_and, and_true, Nat.reduceLeDiff, Nat.reduceAdd, Nat.add_zero, Nat.zero_add, List.length_cons, List.length_nil, List.set_cons_zero, List.set_cons_succ, Nat.reduceLT, s_fi, s_fl, s_fo, s_fa, s_f0, s_f1, s_set, s_ss, lg_cmp_ge, lg_cmp_le, lg_cmp_gt, lg_cmp_lt, lg_cmp_eq, s_brT, s_brF, s_10, w_Ou_addsContours, r_Ou_addsContours, l_Ou_addsContours_0, l_Ou_addsContours_10, l_Ou_addsContours_49, l_Ou_addsContours_51, l_Ou_addsContours_56, l_Ou_addsContours_85, l_Ou_addsContours_94, l_Ou_addsContours_141, l_Ou_addsContours_142, f_4_50, kc_m1, kc_0, f_4_29, ml_4_78, w_Cu_u16, ks_256, ks_512, kc_1, f_4_21, f_4_53, ty_4_6, ty_4_7, ml_4_82, w_Cu_pass, f_4_86, nI_1, O3', C3']
      refine ⟨fun w => ?_, fun w => ?_⟩
      · refine q_wk (e_Ou_addsContours hs (by omega) ⟨by omega, by omega, by omega, by omega⟩ O3 (mvB f3) C3 (Or.inr rfl) (fun z => absurd z (by decide)) (fun y h4 p' pts' cts' t4 O4 C4 => q0 nok h4 g3 _ _ p' 1 (to3 f3 t4) O4 ((t4 _ (by omega) (by omega)).trans A3) C4 (Or.inr rfl))) ⟨rfl, rfl, rfl, rfl, rfl, trivial⟩
      · refine q_c0 (Nat.le_refl _) (Nat.le_refl _) ?_
        refine c_Cu_u16X C3 (mvB f3) hs (by omega) (fun h4 v4 p4 r4 t4 C4 R4 => ?_)
        rcases R4 with ⟨z1, z2, z3, z4⟩ | ⟨z1, z2, z3, z4⟩
        · omega
        · subst z2; subst z4
          simp -implicitDefEqProofs only [s_go, s_nil, s_cons, q_ins, s_op, s_i, s_j, s_a, s_v, s_li, s_lj, s_la, s_liO, s_ljO, s_laO, q_get, q_p1, q_p2, s_n2i, s_n2r, s_n2l, s_n2n, q_pad, q_ar, s_ob, s_obO, q_nth, s_ri, s_riO, s_rb, s_rbO, s_rzO, s_rl, s_rlO, s_rq, s_rqO, s_ry, s_ryO, s_dn, s_tl, s_tn, s_ap, s_an, s_ci, s_cr, s_ni, s_n0, s_n1, q_ags, q_cat, List.contains_nil, List.contains_cons, Nat.reduceBEq, Bool.or_false, Bool.false_or, Bool.true_or, Bool.false_eq_true, ↓reduceIte, Nat.le_refl, Nat.zero_le, true_and, and_true, Nat.reduceLeDiff, Nat.reduceAdd, Nat.add_zero, Nat.zero_add, List.length_cons, List.length_nil, List.set_cons_zero, List.set_cons_succ, Nat.reduceLT, s_fi, s_fl, s_fo, s_fa, s_f0, s_f1, s_set, s_ss, lg_cmp_ge, lg_cmp_le, lg_cmp_gt, lg_cmp_lt, lg_cmp_eq, s_brT, s_brF, s_10, w_Ou_addsContours, r_Ou_addsContours, l_Ou_addsContours_0, l_Ou_addsContours_10, l_Ou_addsContours_49, l_Ou_addsContours_51, l_Ou_addsContours_56, l_Ou_addsContours_85, l_Ou_addsContours_94, l_Ou_addsContours_141, l_Ou_addsContours_142, f_4_50, kc_m1, kc_0, f_4_29, ml_4_78, w_Cu_u16, ks_256, ks_512, kc_1, f_4_21, f_4_53, ty_4_6, ty_4_7, ml_4_82, w_Cu_pass, f_4_86]
          have f4 : q_2 h h4 (u + 4) (u + 5) := fun b b1 b2 => (t4 b b2).trans (f3 b b1 b2)
          exact ⟨fun _ => q0 nok h4 g3 pts (nI cts) p4 1 (t3 f4) (mvO f4) ((t4 _ (by omega)).trans A3) C4 (Or.inr rfl), fun z => absurd (show nI 0 ≤ nI 0 from by decide) z⟩
