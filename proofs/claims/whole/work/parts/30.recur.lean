/-! Outline.addsParts: one part after another -/
def OuG (h : q_H) (u : Nat) (g1 g2 g3 g4 : Nat → Int32) : Prop := q_ar5 h (u + 1) g1 ∧ q_ar5 h (u + 2) g2 ∧ q_ar5 h (u + 3) g3 ∧ q_ar5 h (u + 4) g4
def OuK (h : q_H) (u k : Nat) : Prop := (∃ a1 a2 a3 a4 a5 a6 a7 a8, h (u + 7 + 2 * k) = some (e_Pa (u + 8 + 2 * k) a1 a2 a3 a4 a5 a6 a7 a8)) ∧ ∃ f p e ro, q_Cu h (u + 8 + 2 * k) f p e ro
def OuR (h : q_H) (u : Nat) : Prop := (∃ fn : Nat → Option Nat, h (u + 6) = some (.inl (4, 6, .inr (.inr (.inr (.inr fn))))) ∧ ∀ k, k < 6 → fn k = some (u + 7 + 2 * k)) ∧ (∃ f p e ro, q_Cu h (u + 5) f p e ro) ∧ ∀ k, k < 6 → OuK h u k
def OuJ (h : q_H) (u : Nat) : Prop := (∃ pts cts prd wg, h u = some (e_Ou u pts cts prd wg)) ∧ OuA h u ∧ OuR h u
/-- what changes when a glyph is read at depth dp -/
def q_fO (h h' : q_H) (u dp : Nat) : Prop := ∀ b, (b < u ∨ u + 18 < b ∨ (u + 6 ≤ b ∧ b < u + 7 + 2 * dp)) → h' b = h b
def q_PL (g1 g2 g3 g4 : Nat → Int32) (first cts : Nat) (L : List Pt) : Prop := ∀ j, j < L.length → g1 (first + j) = iI (At L j).1 ∧ g2 (first + j) = iI (At L j).2.1 ∧ g3 (first + j) = nI (At L j).2.2.1 ∧ g4 (first + j) = nI (cts + (At L j).2.2.2)
def q_kp (first : Nat) (g1 g2 g3 g4 a1 a2 a3 a4 : Nat → Int32) : Prop := ∀ j, j < first → a1 j = g1 j ∧ a2 j = g2 j ∧ a3 j = g3 j ∧ a4 j = g4 j
/-- where the font and the file lie: apart from the outline's cells -/
def q_ap (u o row : Nat) : Prop := (o + 12 < u ∨ u + 18 < o) ∧ (row < u ∨ u + 18 < row)
theorem FoK.mv {h h' : q_H} {o : Nat} {F : Nat → Nat} {sz : Nat} (k : FoK h o F sz) (e : ∀ b, o ≤ b → b ≤ o + 12 → h' b = h b) : FoK h' o F sz := by
  obtain ⟨k0, ⟨st, ln, k1⟩, k2, k3, k4, k5, k6, k7, k8, k9⟩ := k
  exact ⟨(e _ (by omega) (by omega)).trans k0, ⟨st, ln, (e _ (by omega) (by omega)).trans k1⟩, (e _ (by omega) (by omega)).trans k2, (e _ (by omega) (by omega)).trans k3, (e _ (by omega) (by omega)).trans k4, (e _ (by omega) (by omega)).trans k5, (e _ (by omega) (by omega)).trans k6, (e _ (by omega) (by omega)).trans k7, (e _ (by omega) (by omega)).trans k8, (e _ (by omega) (by omega)).trans k9⟩
theorem OuG.A {h : q_H} {u : Nat} {g1 g2 g3 g4 : Nat → Int32} (k : OuG h u g1 g2 g3 g4) : OuA h u := ⟨g1, g2, g3, g4, k⟩
theorem OuG.mv {h h' : q_H} {u : Nat} {g1 g2 g3 g4 : Nat → Int32} (k : OuG h u g1 g2 g3 g4) (e : ∀ b, u + 1 ≤ b → b ≤ u + 4 → h' b = h b) : OuG h' u g1 g2 g3 g4 := ⟨(e _ (by omega) (by omega)).trans k.1, (e _ (by omega) (by omega)).trans k.2.1, (e _ (by omega) (by omega)).trans k.2.2.1, (e _ (by omega) (by omega)).trans k.2.2.2⟩
theorem OuR.mv {h h' : q_H} {u dp : Nat} (k : OuR h u) (e : ∀ b, u + 5 ≤ b → b ≤ u + 18 → b ≠ u + 7 + 2 * dp → b ≠ u + 8 + 2 * dp → h' b = h b) (kd : OuK h' u dp) : OuR h' u := by
  obtain ⟨⟨fn, k1, k2⟩, ⟨f, p, e1, ro, k3⟩, k4⟩ := k
  refine ⟨⟨fn, (e _ (by omega) (by omega) (by omega) (by omega)).trans k1, k2⟩, ⟨f, p, e1, ro, (e _ (by omega) (by omega) (by omega) (by omega)).trans k3⟩, fun j hj => ?_⟩
  by_cases c : j = dp
  · subst c; exact kd
  · obtain ⟨⟨a1, a2, a3, a4, a5, a6, a7, a8, y1⟩, f, p, e1, ro, y2⟩ := k4 j hj
    exact ⟨⟨a1, a2, a3, a4, a5, a6, a7, a8, (e _ (by omega) (by omega) (by omega) (by omega)).trans y1⟩, f, p, e1, ro, (e _ (by omega) (by omega) (by omega) (by omega)).trans y2⟩
theorem OuR.mv0 {h h' : q_H} {u : Nat} (k : OuR h u) (e : ∀ b, u + 5 ≤ b → b ≤ u + 18 → h' b = h b) : OuR h' u := by
  obtain ⟨⟨a1, a2, a3, a4, a5, a6, a7, a8, y1⟩, f, p, e1, ro, y2⟩ := k.2.2 0 (by omega)
  exact k.mv (dp := 0) (fun b x1 x2 _ _ => e b x1 x2) ⟨⟨a1, a2, a3, a4, a5, a6, a7, a8, (e _ (by omega) (by omega)).trans y1⟩, f, p, e1, ro, (e _ (by omega) (by omega)).trans y2⟩
/-- what addsGlyph answers -/
def AGs (G : q_G) (l : Launch) (F : Nat → Nat) (sz o row m : Nat) (g : Nat → Int32) (u r : Nat) : Prop := ∀ (d dp gg c tot cts n : Nat) (wg : Int32) (g1 g2 g3 g4 : Nat → Int32) (h : q_H) (Q : q_P), dp + r = 6 → gg < 70000 → c ≤ 64 → tot ≤ 512 → cts ≤ tot → FoK h o F sz → q_By h (o + 1) row m g sz F → h u = some (e_Ou u (nI tot) (nI cts) (nI c) wg) → OuG h u g1 g2 g3 g4 → OuR h u →
  (∀ L rg c' w, RD F sz r gg c = some (L, rg, c', w) → tot + L.length ≤ 512 → ∀ h' a1 a2 a3 a4, q_fO h h' u dp → h' u = some (e_Ou u (nI (tot + L.length)) (nI (cts + rg)) (nI c') (nI w)) → OuG h' u a1 a2 a3 a4 → OuR h' u → q_PL a1 a2 a3 a4 tot cts L → q_kp tot g1 g2 g3 g4 a1 a2 a3 a4 → Q (some (.int 1)) h' n) →
  ((∀ L rg c' w, RD F sz r gg c = some (L, rg, c', w) → 512 < tot + L.length) → ∀ h', q_fO h h' u dp → OuJ h' u → Q (some (.int 0)) h' n) →
  q_Call G l M_Ou_addsGlyph (d + 2 * r + 3) 0 0 [.ref u, .ref o, .int (nI gg), .int (nI dp)] h n Q
-- no part follows
set_option maxRecDepth 100000 in
set_option maxHeartbeats 4000000 in
theorem e_Ou_addsParts {G : q_G} {l : Launch} {d u n : Nat} {x2 gv x8 pts cts prd wg : Int32} {x1 x3 x4 x5 x9 : Option Value} {h : q_H} {Q : q_P} (hO : h u = some (e_Ou u pts cts prd wg)) (hq : Q (some (.int 1)) (q_set h u (e_Ou u pts cts prd gv)) n) :
    q_Z G l M_Ou_addsParts d 0 0 Q 23 [some (.ref u), x1, some (.int x2), x3, x4, x5, some (.int gv), some (.int 0), some (.int x8), x9] [] h n 0 0 := by
  have hO' := hO
  unfold e_Ou at hO'
  refine q_at o_Ou_addsParts [23] 20 l_Ou_addsParts_23 ?_
  simp -implicitDefEqProofs only [s_go, s_nil, s_cons, q_ins, s_op, s_i, s_j, s_a, s_v, s_li, s_lj, s_la, s_liO, s_ljO, s_laO, q_get, q_p1, q_p2, s_n2i, s_n2r, s_n2l, s_n2n, q_pad, q_ar, s_ob, s_obO, q_nth, s_ri, s_riO, s_rb, s_rbO, s_rzO, s_rl, s_rlO, s_rq, s_rqO, s_ry, s_ryO, s_dn, s_tl, s_tn, s_ap, s_an, s_ci, s_cr, s_ni, s_n0, s_n1, q_ags, q_cat, List.contains_nil, List.contains_cons, Nat.reduceBEq, Bool.or_false, Bool.false_or, Bool.true_or, Bool.false_eq_true, ↓reduceIte, Nat.le_refl, Nat.zero_le, true_and, and_true, Nat.reduceLeDiff, Nat.reduceAdd, Nat.add_zero, Nat.zero_add, List.length_cons, List.length_nil, List.set_cons_zero, List.set_cons_succ, Nat.reduceLT, s_fi, s_fl, s_fo, s_fa, s_f0, s_f1, s_set, s_ss, lg_cmp_ge, lg_cmp_le, lg_cmp_gt, lg_cmp_lt, lg_cmp_eq, s_brT, s_brF, s_10, w_Ou_addsParts, r_Ou_addsParts, l_Ou_addsParts_0, l_Ou_addsParts_23, l_Ou_addsParts_97, l_Ou_addsParts_99, l_Ou_addsParts_116, l_Ou_addsParts_131, l_Ou_addsParts_146, l_Ou_addsParts_147, f_4_35, f_4_50, kc_1, kc_0, kb_16, f_4_56, ty_4_8, kb_64, ml_4_118, w_Pa_isRead, f_4_122, ml_4_59, w_Ou_addsGlyph, ml_4_125, w_Ou_isLaid, ks_512, ml_4_129, w_Pa_has, f_4_63, kb_32, ty_4_9, hO']
  exact ⟨fun _ => hq, fun _ => hq⟩
set_option maxRecDepth 100000 in
set_option maxHeartbeats 4000000 in
theorem z_Ou_addsParts {G : q_G} {l : Launch} {F : Nat → Nat} {sz o row m : Nat} {g : Nat → Int32} {u r : Nat} (IH : AGs G l F sz o row m g u r) (hap : q_ap u o row) {d dp own cts e n : Nat} (hdp : dp + 1 + r = 6) (he : e ≤ sz) (hcto : cts ≤ own) {x2 : Int32} {h : q_H} {g1 g2 g3 g4 : Nat → Int32} {Q : q_P} :
    ∀ (kr k : Nat) (A : List Pt) (rg c gv p : Nat) (h' : q_H) (a1 a2 a3 a4 : Nat → Int32) (wg : Int32) (x9 : Option Value), k + kr = 16 → p ≤ e → own + A.length ≤ 512 → RDg (f_N F sz) A rg c gv → FoK h' o F sz → q_By h' (o + 1) row m g sz F → q_fO h h' u dp → h' u = some (e_Ou u (nI (own + A.length)) (nI (cts + rg)) (nI c) wg) → OuG h' u a1 a2 a3 a4 → OuR h' u → q_Cu h' (u + 8 + 2 * dp) (o + 1) p e 0 → q_PL a1 a2 a3 a4 own cts A → q_kp own g1 g2 g3 g4 a1 a2 a3 a4 →
      (∀ L rg' c' w, PR F e (RD F sz r) kr A rg c gv p = some (L, rg', c', w) → own + L.length ≤ 512 → ∀ h' a1 a2 a3 a4, q_fO h h' u dp → h' u = some (e_Ou u (nI (own + L.length)) (nI (cts + rg')) (nI c') (nI w)) → OuG h' u a1 a2 a3 a4 → OuR h' u → q_PL a1 a2 a3 a4 own cts L → q_kp own g1 g2 g3 g4 a1 a2 a3 a4 → Q (some (.int 1)) h' n) →
      ((∀ L rg' c' w, PR F e (RD F sz r) kr A rg c gv p = some (L, rg', c', w) → 512 < own + L.length) → ∀ h', q_fO h h' u dp → OuJ h' u → Q (some (.int 0)) h' n) →
      q_Z G l M_Ou_addsParts (d + 2 * r + 4) 0 0 Q 23 [some (.ref u), some (.ref o), some (.int x2), some (.int (nI dp)), some (.ref (u + 7 + 2 * dp)), some (.int (nI own)), some (.int (nI gv)), some (.int 1), some (.int (nI k)), x9] [] h' n 0 0 := by
  intro kr
  induction kr with
  | zero =>
    intro k A rg c gv p h' a1 a2 a3 a4 wg x9 hk hp hown hA hK hB hf O1 A1 R1 C1 L1 K1 q1 q0
    have hk : k = 16 := by omega
    subst hk
    have O1' := O1
    unfold e_Ou at O1'
    refine q_at o_Ou_addsParts [23] 20 l_Ou_addsParts_23 ?_
    simp -implicitDefEqProofs only [s_go, s_nil, s_cons, q_ins, s_op, s_i, s_j, s_a, s_v, s_li, s_lj, s_la, s_liO, s_ljO, s_laO, q_get, q_p1, q_p2, s_n2i, s_n2r, s_n2l, s_n2n, q_pad, q_ar, s_ob, s_obO, q_nth, s_ri, s_riO, s_rb, s_rbO, s_rzO, s_rl, s_rlO, s_rq, s_rqO, s_ry, s_ryO, s_dn, s_tl, s_tn, s_ap, s_an, s_ci, s_cr, s_ni, s_n0, s_n1, q_ags, q_cat, List.contains_nil, List.contains_cons, Nat.reduceBEq, Bool.or_false, Bool.false_or, Bool.true_or, Bool.false_eq_true, ↓reduceIte, Nat.le_refl, Nat.zero_le, true_and, and_true, Nat.reduceLeDiff, Nat.reduceAdd, Nat.add_zero, Nat.zero_add, List.length_cons, List.length_nil, List.set_cons_zero, List.set_cons_succ, Nat.reduceLT, s_fi, s_fl, s_fo, s_fa, s_f0, s_f1, s_set, s_ss, lg_cmp_ge, lg_cmp_le, lg_cmp_gt, lg_cmp_lt, lg_cmp_eq, s_brT, s_brF, s_10, w_Ou_addsParts, r_Ou_addsParts, l_Ou_addsParts_0, l_Ou_addsParts_23, l_Ou_addsParts_97, l_Ou_addsParts_99, l_Ou_addsParts_116, l_Ou_addsParts_131, l_Ou_addsParts_146, l_Ou_addsParts_147, f_4_35, f_4_50, kc_1, kc_0, kb_16, f_4_56, ty_4_8, kb_64, ml_4_118, w_Pa_isRead, f_4_122, ml_4_59, w_Ou_addsGlyph, ml_4_125, w_Ou_isLaid, ks_512, ml_4_129, w_Pa_has, f_4_63, kb_32, ty_4_9, O1']
    have su : ∀ b, b ≠ u → q_set h' u (e_Ou u (nI (own + A.length)) (nI (cts + rg)) (nI c) (nI gv)) b = h' b := fun b hb => s_ne _ _ hb
    exact ⟨fun _ => q0 (fun L rg' c' w y => by cases y) _ (fun b hb => (su b (by omega)).trans (hf b hb)) ⟨⟨_, _, _, _, s_set _ _ _⟩, (A1.mv (fun b z1 z2 => su b (by omega))).A, R1.mv0 (fun b z1 z2 => su b (by omega))⟩, fun c => absurd (nI_le (a := 16) (Nat.le_refl _) (by omega)) c⟩
  | succ kr ih =>
    intro k A rg c gv p h' a1 a2 a3 a4 wg x9 hk hp hown hA hK hB hf O1 A1 R1 C1 L1 K1 q1 q0
    have hF := hB.2.2.2.2.2.2
    have O1' := O1
    unfold e_Ou at O1'
    have hA' := hA
    obtain ⟨b1, b2, b3, b4, b5⟩ := hA'
    obtain ⟨⟨p1, p2, p3, p4, p5, p6, p7, p8, P1⟩, -⟩ := R1.2.2 dp (by omega)
    have P1' := P1
    unfold e_Pa at P1'
    have ne1 : u + 7 + 2 * dp ≠ u := by omega
    have su : ∀ b, b ≠ u → q_set h' u (e_Ou u (nI (own + A.length)) (nI (cts + rg)) (nI (c + 1)) wg) b = h' b := fun b hb => s_ne _ _ hb
    have no : ¬ (c < 64 ∧ PA4 F p ≤ e ∧ BC (w2 F p) ≤ 1) → ∀ hx, q_fO h hx u dp → OuJ hx u → Q (some (.int 0)) hx n := fun z hx y1 y2 => q0 (fun L rg' c' w y => by unfold PR at y; rw [if_neg z] at y; cases y) hx y1 y2
    refine q_at o_Ou_addsParts [23, 116] 20 l_Ou_addsParts_23 ?_
    simp -implicitDefEqProofs only [s_go, s_nil, s_cons, q_ins, s_op, s_i, s_j, s_a, s_v, s_li, s_lj, s_la, s_liO, s_ljO, s_laO, q_get, q_p1, q_p2, s_n2i, s_n2r, s_n2l, s_n2n, q_pad, q_ar, s_ob, s_obO, q_nth, s_ri, s_riO, s_rb, s_rbO, s_rzO, s_rl, s_rlO, s_rq, s_rqO, s_ry, s_ryO, s_dn, s_tl, s_tn, s_ap, s_an, s_ci, s_cr, s_ni, s_n0, s_n1, q_ags, q_cat, List.contains_nil, List.contains_cons, Nat.reduceBEq, Bool.or_false, Bool.false_or, Bool.true_or, Bool.false_eq_true, ↓reduceIte, Nat.le_refl, Nat.zero_le, true_and, and_true, Nat.reduceLeDiff, Nat.reduceAdd, Nat.add_zero, Nat.zero_add, List.length_cons, List.length_nil, List.set_cons_zero, List.set_cons_succ, Nat.reduceLT, s_fi, s_fl, s_fo, s_fa, s_f0, s_f1, s_set, s_ss, lg_cmp_ge, lg_cmp_le, lg_cmp_gt, lg_cmp_lt, lg_cmp_eq, s_brT, s_brF, s_10, w_Ou_addsParts, r_Ou_addsParts, l_Ou_addsParts_0, l_Ou_addsParts_23, l_Ou_addsParts_97, l_Ou_addsParts_99, l_Ou_addsParts_116, l_Ou_addsParts_131, l_Ou_addsParts_146, l_Ou_addsParts_147, f_4_35, f_4_50, kc_1, kc_0, kb_16, f_4_56, ty_4_8, kb_64, ml_4_118, w_Pa_isRead, f_4_122, ml_4_59, w_Ou_addsGlyph, ml_4_125, w_Ou_isLaid, ks_512, ml_4_129, w_Pa_has, f_4_63, kb_32, ty_4_9, O1', nI_add, nI_1, s_ne _ _ ne1, P1']
    refine ⟨fun z => absurd ((nI_leI (a := 16) (by omega) (by omega)).mp z) (by omega), fun _ => ⟨fun z => ?_, fun z => ?_⟩⟩
    · have z := (nI_ltI (a := 64) (by omega) (by omega)).mp z
      exact no (fun y => absurd y.1 (by omega)) _ (fun b hb => (su b (by omega)).trans (hf b hb)) ⟨⟨_, _, _, _, s_set _ _ _⟩, (A1.mv (fun b z1 z2 => su b (by omega))).A, R1.mv0 (fun b z1 z2 => su b (by omega))⟩
    have hc64 : c < 64 := Nat.lt_of_not_le (fun y => z ((nI_ltI (a := 64) (by omega) (by omega)).mpr (by omega)))
    refine q_c0 (Nat.le_refl _) (Nat.le_refl _) ?_
    refine c_Pa_isRead (h := q_set h' u (e_Ou u (nI (own + A.length)) (nI (cts + rg)) (nI (c + 1)) wg)) ((su _ ne1).trans P1) ((su _ (by omega)).trans C1) (hB.mv (su _ (by have := hap.1; omega)) (su _ (by have := hap.2; omega))) he hp (fun r1 r2 h2 t2 P2 C2 => ?_) (fun rr h2 fl2 ch2 y1 y2 y3 y4 y5 y6 p2 ro t2 P2 C2 hro => ?_)
    rotate_left
    · simp -implicitDefEqProofs only [s_go, s_nil, s_cons, q_ins, s_op, s_i, s_j, s_a, s_v, s_li, s_lj, s_la, s_liO, s_ljO, s_laO, q_get, q_p1, q_p2, s_n2i, s_n2r, s_n2l, s_n2n, q_pad, q_ar, s_ob, s_obO, q_nth, s_ri, s_riO, s_rb, s_rbO, s_rzO, s_rl, s_rlO, s_rq, s_rqO, s_ry, s_ryO, s_dn, s_tl, s_tn, s_ap, s_an, s_ci, s_cr, s_ni, s_n0, s_n1, q_ags, q_cat, List.contains_nil, List.contains_cons, Nat.reduceBEq, Bool.or_false, Bool.false_or, Bool.true_or, Bool.false_eq_true, ↓reduceIte, Nat.le_refl, Nat.zero_le, true_and, and_true, Nat.reduceLeDiff, Nat.reduceAdd, Nat.add_zero, Nat.zero_add, List.length_cons, List.length_nil, List.set_cons_zero, List.set_cons_succ, Nat.reduceLT, s_fi, s_fl, s_fo, s_fa, s_f0, s_f1, s_set, s_ss, lg_cmp_ge, lg_cmp_le, lg_cmp_gt, lg_cmp_lt, lg_cmp_eq, s_brT, s_brF, s_10, w_Ou_addsParts, r_Ou_addsParts, l_Ou_addsParts_0, l_Ou_addsParts_23, l_Ou_addsParts_97, l_Ou_addsParts_99, l_Ou_addsParts_116, l_Ou_addsParts_131, l_Ou_addsParts_146, l_Ou_addsParts_147, f_4_35, f_4_50, kc_1, kc_0, kb_16, f_4_56, ty_4_8, kb_64, ml_4_118, w_Pa_isRead, f_4_122, ml_4_59, w_Ou_addsGlyph, ml_4_125, w_Ou_isLaid, ks_512, ml_4_129, w_Pa_has, f_4_63, kb_32, ty_4_9]
      refine no (fun y => by omega) _ (fun b hb => ((t2 b (by omega) (by omega)).trans (su b (by omega))).trans (hf b hb)) ⟨⟨_, _, _, _, (t2 u (by omega) (by omega)).trans (s_set _ _ _)⟩, (A1.mv (fun b z1 z2 => (t2 b (by omega) (by omega)).trans (su b (by omega)))).A, R1.mv (dp := dp) (fun b z1 z2 z3 z4 => (t2 b z3 z4).trans (su b (by omega))) ⟨⟨_, _, _, _, _, _, _, _, P2⟩, _, _, _, _, C2⟩⟩
    have P2' := P2
    unfold e_Pa at P2'
    have T2 : ∀ b, b ≠ u → b ≠ u + 7 + 2 * dp → b ≠ u + 8 + 2 * dp → h2 b = h' b := fun b z1 z2 z3 => (t2 b z2 z3).trans (su b z1)
    have O2 : h2 u = some (e_Ou u (nI (own + A.length)) (nI (cts + rg)) (nI (c + 1)) wg) := (t2 u (by omega) (by omega)).trans (s_set _ _ _)
    have K2 : OuK h2 u dp := ⟨⟨_, _, _, _, _, _, _, _, P2⟩, _, _, _, _, C2⟩
    have R2 : OuR h2 u := R1.mv (dp := dp) (fun b z1 z2 z3 z4 => T2 b (by omega) z3 z4) K2
    have G2 : OuG h2 u a1 a2 a3 a4 := A1.mv (fun b z1 z2 => T2 b (by omega) (by omega) (by omega))
    have Fo2 : FoK h2 o F sz := hK.mv (fun b z1 z2 => T2 b (by have := hap.1; omega) (by have := hap.1; omega) (by have := hap.1; omega))
    have B2 : q_By h2 (o + 1) row m g sz F := hB.mv (T2 _ (by have := hap.1; omega) (by have := hap.1; omega) (by have := hap.1; omega)) (T2 _ (by have := hap.2; omega) (by have := hap.2; omega) (by have := hap.2; omega))
    have f2 : q_fO h h2 u dp := fun b hb => (T2 b (by omega) (by omega) (by omega)).trans (hf b hb)
    have O2' := O2
    unfold e_Ou at O2'
    have ce : c < 64 ∧ PA4 F p ≤ e ∧ BC (w2 F p) ≤ 1 := ⟨hc64, r1, r2⟩
    simp -implicitDefEqProofs only [s_go, s_nil, s_cons, q_ins, s_op, s_i, s_j, s_a, s_v, s_li, s_lj, s_la, s_liO, s_ljO, s_laO, q_get, q_p1, q_p2, s_n2i, s_n2r, s_n2l, s_n2n, q_pad, q_ar, s_ob, s_obO, q_nth, s_ri, s_riO, s_rb, s_rbO, s_rzO, s_rl, s_rlO, s_rq, s_rqO, s_ry, s_ryO, s_dn, s_tl, s_tn, s_ap, s_an, s_ci, s_cr, s_ni, s_n0, s_n1, q_ags, q_cat, List.contains_nil, List.contains_cons, Nat.reduceBEq, Bool.or_false, Bool.false_or, Bool.true_or, Bool.false_eq_true, ↓reduceIte, Nat.le_refl, Nat.zero_le, true_and, and_true, Nat.reduceLeDiff, Nat.reduceAdd, Nat.add_zero, Nat.zero_add, List.length_cons, List.length_nil, List.set_cons_zero, List.set_cons_succ, Nat.reduceLT, s_fi, s_fl, s_fo, s_fa, s_f0, s_f1, s_set, s_ss, lg_cmp_ge, lg_cmp_le, lg_cmp_gt, lg_cmp_lt, lg_cmp_eq, s_brT, s_brF, s_10, w_Ou_addsParts, r_Ou_addsParts, l_Ou_addsParts_0, l_Ou_addsParts_23, l_Ou_addsParts_97, l_Ou_addsParts_99, l_Ou_addsParts_116, l_Ou_addsParts_131, l_Ou_addsParts_146, l_Ou_addsParts_147, f_4_35, f_4_50, kc_1, kc_0, kb_16, f_4_56, ty_4_8, kb_64, ml_4_118, w_Pa_isRead, f_4_122, ml_4_59, w_Ou_addsGlyph, ml_4_125, w_Ou_isLaid, ks_512, ml_4_129, w_Pa_has, f_4_63, kb_32, ty_4_9, P2', O2', nI_add, nI_1]
    refine q_c0 (Nat.le_refl _) (Nat.le_refl _) ?_
    refine IH d (dp + 1) (w2 F (p + 2)) (c + 1) (own + A.length) (cts + rg) n wg a1 a2 a3 a4 h2 _ (by omega) (by have := w2_lt hF (p + 2); omega) (by omega) hown (by omega) Fo2 B2 O2 G2 R2 (fun B rg' c' w hRD hlen h3 m1 m2 m3 m4 f3 O3 G3 R3 L3 K3 => ?_) (fun hRD h3 f3 J3 => ?_)
    rotate_left
    · simp -implicitDefEqProofs only [s_go, s_nil, s_cons, q_ins, s_op, s_i, s_j, s_a, s_v, s_li, s_lj, s_la, s_liO, s_ljO, s_laO, q_get, q_p1, q_p2, s_n2i, s_n2r, s_n2l, s_n2n, q_pad, q_ar, s_ob, s_obO, q_nth, s_ri, s_riO, s_rb, s_rbO, s_rzO, s_rl, s_rlO, s_rq, s_rqO, s_ry, s_ryO, s_dn, s_tl, s_tn, s_ap, s_an, s_ci, s_cr, s_ni, s_n0, s_n1, q_ags, q_cat, List.contains_nil, List.contains_cons, Nat.reduceBEq, Bool.or_false, Bool.false_or, Bool.true_or, Bool.false_eq_true, ↓reduceIte, Nat.le_refl, Nat.zero_le, true_and, and_true, Nat.reduceLeDiff, Nat.reduceAdd, Nat.add_zero, Nat.zero_add, List.length_cons, List.length_nil, List.set_cons_zero, List.set_cons_succ, Nat.reduceLT, s_fi, s_fl, s_fo, s_fa, s_f0, s_f1, s_set, s_ss, lg_cmp_ge, lg_cmp_le, lg_cmp_gt, lg_cmp_lt, lg_cmp_eq, s_brT, s_brF, s_10, w_Ou_addsParts, r_Ou_addsParts, l_Ou_addsParts_0, l_Ou_addsParts_23, l_Ou_addsParts_97, l_Ou_addsParts_99, l_Ou_addsParts_116, l_Ou_addsParts_131, l_Ou_addsParts_146, l_Ou_addsParts_147, f_4_35, f_4_50, kc_1, kc_0, kb_16, f_4_56, ty_4_8, kb_64, ml_4_118, w_Pa_isRead, f_4_122, ml_4_59, w_Ou_addsGlyph, ml_4_125, w_Ou_isLaid, ks_512, ml_4_129, w_Pa_has, f_4_63, kb_32, ty_4_9]
      refine q0 (fun L rg' c' w y => ?_) h3 (fun b hb => (f3 b (by omega)).trans (f2 b hb)) J3
      unfold PR at y
      rw [if_pos ce] at y
      split at y
      · cases y
      · rename_i B rg1 c1 w1 hr
        have z := hRD _ _ _ _ hr
        split at y
        · cases y
        · rename_i A1 hj
          have := (JN_len hj).1
          split at y
          · have := PR_len _ _ _ _ _ _ _ _ _ _ y
            omega
          · cases y
            omega
    have P3 : h3 (u + 7 + 2 * dp) = some (e_Pa (u + 8 + 2 * dp) (nI (w2 F p)) (nI (w2 F (p + 2))) (iI (pP F p)) (iI (pQ F p)) (iI (pA F p)) (iI (pB F p)) (iI (pC F p)) (iI (pD F p))) := (f3 _ (by omega)).trans P2
    have C3 : q_Cu h3 (u + 8 + 2 * dp) (o + 1) (PA4 F p) e 0 := (f3 _ (by omega)).trans C2
    have f3' : q_fO h h3 u dp := fun b hb => (f3 b (by omega)).trans (f2 b hb)
    obtain ⟨s1, s2, s3, s4⟩ := pF_sm hF p
    have hz := RD_b hF sz _ _ _ (by omega) _ _ _ _ hRD
    have v1 := NV_b hF (w2 F p) (PA1 p)
    have v2 := NV_b hF (w2 F p) (PA2 F p)
    have msh := MVL_sh F p own A B (fun z => ⟨(v1.2 z).1, (v2.2 z).1⟩)
    have O3' := O3
    unfold e_Ou at O3'
    have P3' := P3
    unfold e_Pa at P3'
    simp -implicitDefEqProofs only [s_go, s_nil, s_cons, q_ins, s_op, s_i, s_j, s_a, s_v, s_li, s_lj, s_la, s_liO, s_ljO, s_laO, q_get, q_p1, q_p2, s_n2i, s_n2r, s_n2l, s_n2n, q_pad, q_ar, s_ob, s_obO, q_nth, s_ri, s_riO, s_rb, s_rbO, s_rzO, s_rl, s_rlO, s_rq, s_rqO, s_ry, s_ryO, s_dn, s_tl, s_tn, s_ap, s_an, s_ci, s_cr, s_ni, s_n0, s_n1, q_ags, q_cat, List.contains_nil, List.contains_cons, Nat.reduceBEq, Bool.or_false, Bool.false_or, Bool.true_or, Bool.false_eq_true, ↓reduceIte, Nat.le_refl, Nat.zero_le, true_and, and_true, Nat.reduceLeDiff, Nat.reduceAdd, Nat.add_zero, Nat.zero_add, List.length_cons, List.length_nil, List.set_cons_zero, List.set_cons_succ, Nat.reduceLT, s_fi, s_fl, s_fo, s_fa, s_f0, s_f1, s_set, s_ss, lg_cmp_ge, lg_cmp_le, lg_cmp_gt, lg_cmp_lt, lg_cmp_eq, s_brT, s_brF, s_10, w_Ou_addsParts, r_Ou_addsParts, l_Ou_addsParts_0, l_Ou_addsParts_23, l_Ou_addsParts_97, l_Ou_addsParts_99, l_Ou_addsParts_116, l_Ou_addsParts_131, l_Ou_addsParts_146, l_Ou_addsParts_147, f_4_35, f_4_50, kc_1, kc_0, kb_16, f_4_56, ty_4_8, kb_64, ml_4_118, w_Pa_isRead, f_4_122, ml_4_59, w_Ou_addsGlyph, ml_4_125, w_Ou_isLaid, ks_512, ml_4_129, w_Pa_has, f_4_63, kb_32, ty_4_9, O3', P3']
    refine q_c0 (Nat.le_refl _) (Nat.le_refl _) ?_
    refine c_Ou_isLaid (X := fun j => (At (A ++ B) (j - own)).1) (Y := fun j => (At (A ++ B) (j - own)).2.1) (pts := own + A.length + B.length) (first := own + A.length) P3 (w2_lt hF p) ⟨fun z => ⟨v1.1 z, v2.1 z⟩, fun z => ⟨(v1.2 z).1, (v1.2 z).2, (v2.2 z).1, (v2.2 z).2⟩⟩ s1 s2 s3 s4 O3 ⟨by omega, by omega⟩ hlen (by omega) (by omega) G3.1 G3.2.1 ?_ (fun mx my lay h4 y1 y2 t4 Y1 Y2 ne un => ?_) (fun lay h4 y1 y2 t4 Y1 Y2 => ?_)
    · intro j z1 z2
      dsimp only
      rcases Nat.lt_or_ge j (own + A.length) with y | y
      · have q := L1 (j - own) (by omega)
        have qq := b4 _ (At_mem (show j - own < A.length by omega))
        rw [show own + (j - own) = j by omega] at q
        rw [At_l (by omega), (K3 j y).1, (K3 j y).2.1]
        exact ⟨q.1, q.2.1, qq.1, qq.2.1⟩
      · have q := L3 (j - (own + A.length)) (by omega)
        have qq := hz.2.2.2.1 _ (At_mem (show j - (own + A.length) < B.length by omega))
        rw [show own + A.length + (j - (own + A.length)) = j by omega] at q
        rw [show j - own = A.length + (j - (own + A.length)) by omega, At_r]
        exact ⟨q.1, q.2.1, qq.1, qq.2.1⟩
    · have hmv : MVL F p A B = some (mx, my) := msh.symm.trans lay.1
      obtain ⟨A', hA'⟩ : ∃ A', A' = A ++ B.map (LPt F p rg (mx, my)) := ⟨_, rfl⟩
      have hj : JN F p A rg B = some A' := by
        subst hA'
        unfold JN
        rw [hmv]
        refine cI_p ⟨At_all.mpr (fun j hj => ?_), by omega⟩
        have q := lay.2 (own + A.length + j) (by omega) (by omega)
        dsimp only at q
        rw [show own + A.length + j - own = A.length + j by omega, At_r] at q
        exact q
      have eq : PR F e (RD F sz r) (kr + 1) A rg c gv p = if BT (w2 F p) 5 then PR F e (RD F sz r) kr A' (rg + rg') c' (if BT (w2 F p) 9 then w else gv) (PA4 F p) else some (A', rg + rg', c', if BT (w2 F p) 9 then w else gv) := by
        conv => lhs; unfold PR
        rw [if_pos ce, hRD]
        dsimp only
        rw [hj]
      have hl := JN_len hj
      have P4 := (t4 _ (by omega) (by omega)).trans P3
      have P4' := P4
      unfold e_Pa at P4'
      have O4 : h4 u = some (e_Ou u (nI (own + A'.length)) (nI (cts + (rg + rg'))) (nI c') (nI w)) := by
        rw [hl.1, ← Nat.add_assoc, ← Nat.add_assoc]
        exact (t4 u (by omega) (by omega)).trans O3
      have O4' := O4
      unfold e_Ou at O4'
      have G4 : OuG h4 u y1 y2 m3 m4 := ⟨Y1, Y2, (t4 _ (by omega) (by omega)).trans G3.2.2.1, (t4 _ (by omega) (by omega)).trans G3.2.2.2⟩
      have R4 : OuR h4 u := R3.mv0 (fun b z1 z2 => t4 b (by omega) (by omega))
      have C4 : q_Cu h4 (u + 8 + 2 * dp) (o + 1) (PA4 F p) e 0 := (t4 _ (by omega) (by omega)).trans C3
      have f4 : q_fO h h4 u dp := fun b hb => (t4 b (by omega) (by omega)).trans (f3' b hb)
      have K4 : q_kp own g1 g2 g3 g4 y1 y2 m3 m4 := fun j hj => by
        have q1 := un j (Or.inl (by omega))
        have q2 := K3 j (by omega)
        have q3 := K1 j hj
        exact ⟨(q1.1.trans q2.1).trans q3.1, (q1.2.trans q2.2.1).trans q3.2.1, q2.2.2.1.trans q3.2.2.1, q2.2.2.2.trans q3.2.2.2⟩
      have L4 : q_PL y1 y2 m3 m4 own cts A' := fun j hj => by
        rw [hl.1] at hj
        subst hA'
        rcases Nat.lt_or_ge j A.length with y | y
        · have q1 := un (own + j) (Or.inl (by omega))
          have q2 := K3 (own + j) (by omega)
          have q3 := L1 j y
          rw [At_l y]
          exact ⟨(q1.1.trans q2.1).trans q3.1, (q1.2.trans q2.2.1).trans q3.2.1, q2.2.2.1.trans q3.2.2.1, q2.2.2.2.trans q3.2.2.2⟩
        · obtain ⟨i, rfl⟩ : ∃ i, j = A.length + i := ⟨j - A.length, by omega⟩
          have q1 := ne (own + A.length + i) (by omega) (by omega)
          have q3 := L3 i (by omega)
          rw [show own + A.length + i - own = A.length + i by omega, At_r] at q1
          rw [At_r, At_m (by omega), ← Nat.add_assoc]
          exact ⟨q1.1, q1.2, q3.2.2.1, q3.2.2.2.trans (by unfold LPt; dsimp only; rw [Nat.add_assoc])⟩
      have Fo4 : FoK h4 o F sz := Fo2.mv (fun b z1 z2 => (t4 b (by have := hap.1; omega) (by have := hap.1; omega)).trans (f3 b (by have := hap.1; omega)))
      have B4 : q_By h4 (o + 1) row m g sz F := B2.mv ((t4 _ (by have := hap.1; omega) (by have := hap.1; omega)).trans (f3 _ (by have := hap.1; omega))) ((t4 _ (by have := hap.2; omega) (by have := hap.2; omega)).trans (f3 _ (by have := hap.2; omega)))
      have hg : RDg (f_N F sz) A' (rg + rg') c' (if BT (w2 F p) 9 then w else gv) := ⟨by have := hz.1; omega, hl.2, hz.2.2.1, JN_b b4 hz.2.2.2.1 hj, by split; exact hz.2.2.2.2; exact b5⟩
      have fin : ∀ gv', gv' = (if BT (w2 F p) 9 then w else gv) → q_Z G l M_Ou_addsParts (d + 2 * r + 4) 0 0 Q 116 [some (.ref u), some (.ref o), some (.int x2), some (.int (nI dp)), some (.ref (u + 7 + 2 * dp)), some (.int (nI own)), some (.int (nI gv')), some (.int 1), some (.int (nI k)), some (.int (nI (own + A.length)))] [] h4 n 0 0 := by
        intro gv' hgv
        rw [← hgv] at hg eq
        refine q_at o_Ou_addsParts [23] 20 l_Ou_addsParts_116 ?_
        simp -implicitDefEqProofs only [s_go, s_nil, s_cons, q_ins, s_op, s_i, s_j, s_a, s_v, s_li, s_lj, s_la, s_liO, s_ljO, s_laO, q_get, q_p1, q_p2, s_n2i, s_n2r, s_n2l, s_n2n, q_pad, q_ar, s_ob, s_obO, q_nth, s_ri, s_riO, s_rb, s_rbO, s_rzO, s_rl, s_rlO, s_rq, s_rqO, s_ry, s_ryO, s_dn, s_tl, s_tn, s_ap, s_an, s_ci, s_cr, s_ni, s_n0, s_n1, q_ags, q_cat, List.contains_nil, List.contains_cons, Nat.reduceBEq, Bool.or_false, Bool.false_or, Bool.true_or, Bool.false_eq_true, ↓reduceIte, Nat.le_refl, Nat.zero_le, true_and, and_true, Nat.reduceLeDiff, Nat.reduceAdd, Nat.add_zero, Nat.zero_add, List.length_cons, List.length_nil, List.set_cons_zero, List.set_cons_succ, Nat.reduceLT, s_fi, s_fl, s_fo, s_fa, s_f0, s_f1, s_set, s_ss, lg_cmp_ge, lg_cmp_le, lg_cmp_gt, lg_cmp_lt, lg_cmp_eq, s_brT, s_brF, s_10, w_Ou_addsParts, r_Ou_addsParts, l_Ou_addsParts_0, l_Ou_addsParts_23, l_Ou_addsParts_97, l_Ou_addsParts_99, l_Ou_addsParts_116, l_Ou_addsParts_131, l_Ou_addsParts_146, l_Ou_addsParts_147, f_4_35, f_4_50, kc_1, kc_0, kb_16, f_4_56, ty_4_8, kb_64, ml_4_118, w_Pa_isRead, f_4_122, ml_4_59, w_Ou_addsGlyph, ml_4_125, w_Ou_isLaid, ks_512, ml_4_129, w_Pa_has, f_4_63, kb_32, ty_4_9, P4']
        refine q_c0 (Nat.le_refl _) (Nat.le_refl _) ?_
        refine c_Pa_has (k := 5) P4 (w2_lt hF p) (by omega) (fun b5 => ?_) (fun b5 => ?_)
        · rw [if_pos b5] at eq
          simp -implicitDefEqProofs only [s_go, s_nil, s_cons, q_ins, s_op, s_i, s_j, s_a, s_v, s_li, s_lj, s_la, s_liO, s_ljO, s_laO, q_get, q_p1, q_p2, s_n2i, s_n2r, s_n2l, s_n2n, q_pad, q_ar, s_ob, s_obO, q_nth, s_ri, s_riO, s_rb, s_rbO, s_rzO, s_rl, s_rlO, s_rq, s_rqO, s_ry, s_ryO, s_dn, s_tl, s_tn, s_ap, s_an, s_ci, s_cr, s_ni, s_n0, s_n1, q_ags, q_cat, List.contains_nil, List.contains_cons, Nat.reduceBEq, Bool.or_false, Bool.false_or, Bool.true_or, Bool.false_eq_true, ↓reduceIte, Nat.le_refl, Nat.zero_le, true_and, and_true, Nat.reduceLeDiff, Nat.reduceAdd, Nat.add_zero, Nat.zero_add, List.length_cons, List.length_nil, List.set_cons_zero, List.set_cons_succ, Nat.reduceLT, s_fi, s_fl, s_fo, s_fa, s_f0, s_f1, s_set, s_ss, lg_cmp_ge, lg_cmp_le, lg_cmp_gt, lg_cmp_lt, lg_cmp_eq, s_brT, s_brF, s_10, w_Ou_addsParts, r_Ou_addsParts, l_Ou_addsParts_0, l_Ou_addsParts_23, l_Ou_addsParts_97, l_Ou_addsParts_99, l_Ou_addsParts_116, l_Ou_addsParts_131, l_Ou_addsParts_146, l_Ou_addsParts_147, f_4_35, f_4_50, kc_1, kc_0, kb_16, f_4_56, ty_4_8, kb_64, ml_4_118, w_Pa_isRead, f_4_122, ml_4_59, w_Ou_addsGlyph, ml_4_125, w_Ou_isLaid, ks_512, ml_4_129, w_Pa_has, f_4_63, kb_32, ty_4_9, nI_add, nI_1]
          exact ih (k + 1) A' (rg + rg') c' gv' (PA4 F p) h4 y1 y2 m3 m4 (nI w) _ (by omega) r1 (by omega) hg Fo4 B4 f4 O4 G4 R4 C4 L4 K4 (fun L rg2 c2 w2 z => q1 L rg2 c2 w2 (eq.trans z)) (fun z => q0 (fun L rg2 c2 w2 zz => z L rg2 c2 w2 (eq.symm.trans zz)))
        · rw [if_neg b5] at eq
          simp -implicitDefEqProofs only [s_go, s_nil, s_cons, q_ins, s_op, s_i, s_j, s_a, s_v, s_li, s_lj, s_la, s_liO, s_ljO, s_laO, q_get, q_p1, q_p2, s_n2i, s_n2r, s_n2l, s_n2n, q_pad, q_ar, s_ob, s_obO, q_nth, s_ri, s_riO, s_rb, s_rbO, s_rzO, s_rl, s_rlO, s_rq, s_rqO, s_ry, s_ryO, s_dn, s_tl, s_tn, s_ap, s_an, s_ci, s_cr, s_ni, s_n0, s_n1, q_ags, q_cat, List.contains_nil, List.contains_cons, Nat.reduceBEq, Bool.or_false, Bool.false_or, Bool.true_or, Bool.false_eq_true, ↓reduceIte, Nat.le_refl, Nat.zero_le, true_and, and_true, Nat.reduceLeDiff, Nat.reduceAdd, Nat.add_zero, Nat.zero_add, List.length_cons, List.length_nil, List.set_cons_zero, List.set_cons_succ, Nat.reduceLT, s_fi, s_fl, s_fo, s_fa, s_f0, s_f1, s_set, s_ss, lg_cmp_ge, lg_cmp_le, lg_cmp_gt, lg_cmp_lt, lg_cmp_eq, s_brT, s_brF, s_10, w_Ou_addsParts, r_Ou_addsParts, l_Ou_addsParts_0, l_Ou_addsParts_23, l_Ou_addsParts_97, l_Ou_addsParts_99, l_Ou_addsParts_116, l_Ou_addsParts_131, l_Ou_addsParts_146, l_Ou_addsParts_147, f_4_35, f_4_50, kc_1, kc_0, kb_16, f_4_56, ty_4_8, kb_64, ml_4_118, w_Pa_isRead, f_4_122, ml_4_59, w_Ou_addsGlyph, ml_4_125, w_Ou_isLaid, ks_512, ml_4_129, w_Pa_has, f_4_63, kb_32, ty_4_9, nI_add, nI_1]
          have su4 : ∀ b, b ≠ u → q_set h4 u (e_Ou u (nI (own + A'.length)) (nI (cts + (rg + rg'))) (nI c') (nI gv')) b = h4 b := fun b hb => s_ne _ _ hb
          exact e_Ou_addsParts O4 (q1 A' (rg + rg') c' gv' eq (by omega) _ y1 y2 m3 m4 (fun b hb => (su4 b (by omega)).trans (f4 b hb)) (s_set _ _ _) (G4.mv (fun b z1 z2 => su4 b (by omega))) (R4.mv0 (fun b z1 z2 => su4 b (by omega))) L4 K4)
      simp -implicitDefEqProofs only [s_go, s_nil, s_cons, q_ins, s_op, s_i, s_j, s_a, s_v, s_li, s_lj, s_la, s_liO, s_ljO, s_laO, q_get, q_p1, q_p2, s_n2i, s_n2r, s_n2l, s_n2n, q_pad, q_ar, s_ob, s_obO, q_nth, s_ri, s_riO, s_rb, s_rbO, s_rzO, s_rl, s_rlO, s_rq, s_rqO, s_ry, s_ryO, s_dn, s_tl, s_tn, s_ap, s_an, s_ci, s_cr, s_ni, s_n0, s_n1, q_ags, q_cat, List.contains_nil, List.contains_cons, Nat.reduceBEq, Bool.or_false, Bool.false_or, Bool.true_or, Bool.false_eq_true, ↓reduceIte, Nat.le_refl, Nat.zero_le, true_and, and_true, Nat.reduceLeDiff, Nat.reduceAdd, Nat.add_zero, Nat.zero_add, List.length_cons, List.length_nil, List.set_cons_zero, List.set_cons_succ, Nat.reduceLT, s_fi, s_fl, s_fo, s_fa, s_f0, s_f1, s_set, s_ss, lg_cmp_ge, lg_cmp_le, lg_cmp_gt, lg_cmp_lt, lg_cmp_eq, s_brT, s_brF, s_10, w_Ou_addsParts, r_Ou_addsParts, l_Ou_addsParts_0, l_Ou_addsParts_23, l_Ou_addsParts_97, l_Ou_addsParts_99, l_Ou_addsParts_116, l_Ou_addsParts_131, l_Ou_addsParts_146, l_Ou_addsParts_147, f_4_35, f_4_50, kc_1, kc_0, kb_16, f_4_56, ty_4_8, kb_64, ml_4_118, w_Pa_isRead, f_4_122, ml_4_59, w_Ou_addsGlyph, ml_4_125, w_Ou_isLaid, ks_512, ml_4_129, w_Pa_has, f_4_63, kb_32, ty_4_9, P4']
      refine q_c0 (Nat.le_refl _) (Nat.le_refl _) ?_
      refine c_Pa_has (k := 9) P4 (w2_lt hF p) (by omega) (fun b9 => ?_) (fun b9 => ?_)
      · simp -implicitDefEqProofs only [s_go, s_nil, s_cons, q_ins, s_op, s_i, s_j, s_a, s_v, s_li, s_lj, s_la, s_liO, s_ljO, s_laO, q_get, q_p1, q_p2, s_n2i, s_n2r, s_n2l, s_n2n, q_pad, q_ar, s_ob, s_obO, q_nth, s_ri, s_riO, s_rb, s_rbO, s_rzO, s_rl, s_rlO, s_rq, s_rqO, s_ry, s_ryO, s_dn, s_tl, s_tn, s_ap, s_an, s_ci, s_cr, s_ni, s_n0, s_n1, q_ags, q_cat, List.contains_nil, List.contains_cons, Nat.reduceBEq, Bool.or_false, Bool.false_or, Bool.true_or, Bool.false_eq_true, ↓reduceIte, Nat.le_refl, Nat.zero_le, true_and, and_true, Nat.reduceLeDiff, Nat.reduceAdd, Nat.add_zero, Nat.zero_add, List.length_cons, List.length_nil, List.set_cons_zero, List.set_cons_succ, Nat.reduceLT, s_fi, s_fl, s_fo, s_fa, s_f0, s_f1, s_set, s_ss, lg_cmp_ge, lg_cmp_le, lg_cmp_gt, lg_cmp_lt, lg_cmp_eq, s_brT, s_brF, s_10, w_Ou_addsParts, r_Ou_addsParts, l_Ou_addsParts_0, l_Ou_addsParts_23, l_Ou_addsParts_97, l_Ou_addsParts_99, l_Ou_addsParts_116, l_Ou_addsParts_131, l_Ou_addsParts_146, l_Ou_addsParts_147, f_4_35, f_4_50, kc_1, kc_0, kb_16, f_4_56, ty_4_8, kb_64, ml_4_118, w_Pa_isRead, f_4_122, ml_4_59, w_Ou_addsGlyph, ml_4_125, w_Ou_isLaid, ks_512, ml_4_129, w_Pa_has, f_4_63, kb_32, ty_4_9, P4', O4']
        exact fin w (by rw [if_pos b9])
      · simp -implicitDefEqProofs only [s_go, s_nil, s_cons, q_ins, s_op, s_i, s_j, s_a, s_v, s_li, s_lj, s_la, s_liO, s_ljO, s_laO, q_get, q_p1, q_p2, s_n2i, s_n2r, s_n2l, s_n2n, q_pad, q_ar, s_ob, s_obO, q_nth, s_ri, s_riO, s_rb, s_rbO, s_rzO, s_rl, s_rlO, s_rq, s_rqO, s_ry, s_ryO, s_dn, s_tl, s_tn, s_ap, s_an, s_ci, s_cr, s_ni, s_n0, s_n1, q_ags, q_cat, List.contains_nil, List.contains_cons, Nat.reduceBEq, Bool.or_false, Bool.false_or, Bool.true_or, Bool.false_eq_true, ↓reduceIte, Nat.le_refl, Nat.zero_le, true_and, and_true, Nat.reduceLeDiff, Nat.reduceAdd, Nat.add_zero, Nat.zero_add, List.length_cons, List.length_nil, List.set_cons_zero, List.set_cons_succ, Nat.reduceLT, s_fi, s_fl, s_fo, s_fa, s_f0, s_f1, s_set, s_ss, lg_cmp_ge, lg_cmp_le, lg_cmp_gt, lg_cmp_lt, lg_cmp_eq, s_brT, s_brF, s_10, w_Ou_addsParts, r_Ou_addsParts, l_Ou_addsParts_0, l_Ou_addsParts_23, l_Ou_addsParts_97, l_Ou_addsParts_99, l_Ou_addsParts_116, l_Ou_addsParts_131, l_Ou_addsParts_146, l_Ou_addsParts_147, f_4_35, f_4_50, kc_1, kc_0, kb_16, f_4_56, ty_4_8, kb_64, ml_4_118, w_Pa_isRead, f_4_122, ml_4_59, w_Ou_addsGlyph, ml_4_125, w_Ou_isLaid, ks_512, ml_4_129, w_Pa_has, f_4_63, kb_32, ty_4_9, P4', O4']
        exact fin gv (by rw [if_neg b9])
    · simp -implicitDefEqProofs only [s_go, s_nil, s_cons, q_ins, s_op, s_i, s_j, s_a, s_v, s_li, s_lj, s_la, s_liO, s_ljO, s_laO, q_get, q_p1, q_p2, s_n2i, s_n2r, s_n2l, s_n2n, q_pad, q_ar, s_ob, s_obO, q_nth, s_ri, s_riO, s_rb, s_rbO, s_rzO, s_rl, s_rlO, s_rq, s_rqO, s_ry, s_ryO, s_dn, s_tl, s_tn, s_ap, s_an, s_ci, s_cr, s_ni, s_n0, s_n1, q_ags, q_cat, List.contains_nil, List.contains_cons, Nat.reduceBEq, Bool.or_false, Bool.false_or, Bool.true_or, Bool.false_eq_true, ↓reduceIte, Nat.le_refl, Nat.zero_le, true_and, and_true, Nat.reduceLeDiff, Nat.reduceAdd, Nat.add_zero, Nat.zero_add, List.length_cons, List.length_nil, List.set_cons_zero, List.set_cons_succ, Nat.reduceLT, s_fi, s_fl, s_fo, s_fa, s_f0, s_f1, s_set, s_ss, lg_cmp_ge, lg_cmp_le, lg_cmp_gt, lg_cmp_lt, lg_cmp_eq, s_brT, s_brF, s_10, w_Ou_addsParts, r_Ou_addsParts, l_Ou_addsParts_0, l_Ou_addsParts_23, l_Ou_addsParts_97, l_Ou_addsParts_99, l_Ou_addsParts_116, l_Ou_addsParts_131, l_Ou_addsParts_146, l_Ou_addsParts_147, f_4_35, f_4_50, kc_1, kc_0, kb_16, f_4_56, ty_4_8, kb_64, ml_4_118, w_Pa_isRead, f_4_122, ml_4_59, w_Ou_addsGlyph, ml_4_125, w_Ou_isLaid, ks_512, ml_4_129, w_Pa_has, f_4_63, kb_32, ty_4_9]
      refine q0 (fun L rg1 c1 w1 y => ?_) h4 (fun b hb => (t4 b (by omega) (by omega)).trans (f3' b hb)) ⟨⟨_, _, _, _, (t4 u (by omega) (by omega)).trans O3⟩, ⟨y1, y2, m3, m4, Y1, Y2, (t4 _ (by omega) (by omega)).trans G3.2.2.1, (t4 _ (by omega) (by omega)).trans G3.2.2.2⟩, R3.mv0 (fun b z1 z2 => t4 b (by omega) (by omega))⟩
      exfalso
      unfold PR at y
      rw [if_pos ce, hRD] at y
      dsimp only at y
      split at y
      · cases y
      · rename_i A1 hj
        unfold JN at hj
        split at hj
        · cases hj
        · rename_i mm hm
          unfold cI at hj
          split at hj
          · rename_i cc
            refine lay mm.1 mm.2 ⟨msh.trans hm, fun j z1 z2 => ?_⟩
            have q := At_all.mp cc.1 (j - (own + A.length)) (by omega)
            dsimp only
            rw [show j - own = A.length + (j - (own + A.length)) by omega, At_r]
            exact q
          · cases hj
