/-! FontOutlines: show, load -/
/-- the outline shows glyph k -/
def SHN (h : q_H) (u : Nat) (F : Nat → Nat) (sz k : Nat) : Prop := ∃ L rg c w a1 a2 a3 a4, RD F sz 6 k 0 = some (L, rg, c, w) ∧ h u = some (e_Ou u (nI L.length) (nI rg) (nI c) (nI w)) ∧ OuG h u a1 a2 a3 a4 ∧ OuR h u ∧ q_PL a1 a2 a3 a4 0 0 L
theorem OuG.cp {h h' : q_H} {u : Nat} {a1 a2 a3 a4 : Nat → Int32} (k : OuG h u a1 a2 a3 a4) (e : ∀ b, u + 1 ≤ b → b ≤ u + 4 → h' b = h b) : OuG h' u a1 a2 a3 a4 := by
  obtain ⟨k1, k2, k3, k4⟩ := k
  exact ⟨(e _ (by omega) (by omega)).trans k1, (e _ (by omega) (by omega)).trans k2, (e _ (by omega) (by omega)).trans k3, (e _ (by omega) (by omega)).trans k4⟩
theorem SHN.mv {h h' : q_H} {u : Nat} {F : Nat → Nat} {sz k : Nat} (s : SHN h u F sz k) (e : ∀ b, u ≤ b → b ≤ u + 18 → h' b = h b) : SHN h' u F sz k := by
  obtain ⟨L, rg, c, w, a1, a2, a3, a4, s1, s2, s3, s4, s5⟩ := s
  exact ⟨L, rg, c, w, a1, a2, a3, a4, s1, (e u (by omega) (by omega)).trans s2, s3.cp (fun b b1 b2 => e b (by omega) (by omega)), s4.mv0 (fun b b1 b2 => e b (by omega) b2), s5⟩
theorem SHN.oj {h : q_H} {u : Nat} {F : Nat → Nat} {sz k : Nat} (s : SHN h u F sz k) : OuJ h u := by
  obtain ⟨L, rg, c, w, a1, a2, a3, a4, s1, s2, s3, s4, s5⟩ := s
  exact ⟨⟨_, _, _, _, s2⟩, ⟨a1, a2, a3, a4, s3⟩, s4⟩
theorem FoJ.cp {h h' : q_H} {o : Nat} (hJ : FoJ h o) (e : ∀ b, b = o ∨ (o + 4 ≤ b ∧ b ≤ o + 12) → h' b = h b) : FoJ h' o := by
  obtain ⟨⟨em, gl, wd, lp, j1, j2⟩, j3, og, pl, mn, j4, j5⟩ := hJ
  refine ⟨⟨em, gl, wd, lp, (e o (Or.inl rfl)).trans j1, j2⟩, fun i h1 h2 => ?_, og, pl, mn, (e _ (Or.inr (by omega))).trans j4, j5⟩
  obtain ⟨st, ln, q⟩ := j3 i h1 h2
  exact ⟨st, ln, (e _ (Or.inr (by omega))).trans q⟩
/-- a file that is a font -/
def FNT (F : Nat → Nat) (sz : Nat) : Prop := FILE_ok F sz ∧ TAB_ok F sz ∧ FORM_ok F sz
set_option maxRecDepth 100000 in
set_option maxHeartbeats 4000000 in
theorem c_FO_show {G : q_G} {l : Launch} {d x cur row m n sz k : Nat} {v0 v3 v4 : Value} {sh : Int32} {g : Nat → Int32} {F : Nat → Nat} {h : q_H} {Q : q_P} (hO : h x = some (.inr (7, [v0, .ref (x + 29), .ref cur, v3, v4, .int sh]))) (hap : q_ap (x + 29) cur row) (hF : FNT F sz) (hA : ALL_ok F sz) (hk : k < f_N F sz) (hK : FoK h cur F sz) (hB : q_By h (cur + 1) row m g sz F) (hJ : OuJ h (x + 29)) (hS : sh = nI k → SHN h (x + 29) F sz k)
    (hq : ∀ h', h' x = some (.inr (7, [v0, .ref (x + 29), .ref cur, v3, v4, .int (nI k)])) → (∀ b, b ≠ x → (b < x + 29 ∨ x + 47 < b) → h' b = h b) → SHN h' (x + 29) F sz k → Q none h' n) : q_Call G l M_FO_show (d + 17) 0 0 [.ref x, .int (nI k)] h n Q := by
  obtain ⟨f1, f2, f3⟩ := hF
  have hN : f_N F sz ≤ 256 := f3.1.2.2.2.2.2.1
  obtain ⟨⟨p1, p2, p3, p4, ou⟩, -, -⟩ := id hJ
  unfold e_Ou at ou
  refine q_in u_FO_show (by rw [L_FO_show]; exact Nat.le_of_ble_eq_true rfl) ?_
  rw [L_FO_show]
  refine q_at o_FO_show [] 20 l_FO_show_0 ?_
  simp -implicitDefEqProofs only [s_go, s_nil, s_cons, q_ins, s_op, s_i, s_j, s_a, s_v, s_li, s_lj, s_la, s_liO, s_ljO, s_laO, q_get, q_p1, q_p2, s_n2i, s_n2r, s_n2l, s_n2n, q_pad, q_ar, s_ob, s_obO, q_nth, s_ri, s_riO, s_rb, s_rbO, s_rzO, s_rl, s_rlO, s_rq, s_rqO, s_ry, s_ryO, s_dn, s_tl, s_tn, s_ap, s_an, s_ci, s_cr, s_ni, s_n0, s_n1, q_ags, q_cat, List.contains_nil, List.contains_cons, Nat.reduceBEq, Bool.or_false, Bool.false_or, Bool.true_or, Bool.false_eq_true, ↓reduceIte, Nat.le_refl, Nat.zero_le, true_and, and_true, Nat.reduceLeDiff, Nat.reduceAdd, Nat.add_zero, Nat.zero_add, List.length_cons, List.length_nil, List.set_cons_zero, List.set_cons_succ, Nat.reduceLT, s_fi, s_fl, s_fo, s_fa, s_f0, s_f1, s_set, s_ss, lg_cmp_ge, lg_cmp_le, lg_cmp_gt, lg_cmp_lt, lg_cmp_eq, s_brT, s_brF, s_10, w_FO_show, r_FO_show, l_FO_show_0, l_FO_show_26, f_7_39, f_7_31, f_7_19, ml_7_166, w_Ou_readGlyph, ty_7_5, hO, ou]
  refine ⟨fun z => ?_, fun z => ?_⟩
  · rw [z] at hO
    exact hq h hO (fun _ _ _ => rfl) (hS z)
  · refine q_c0 (Nat.le_refl _) (Nat.le_refl _) ?_
    refine c_Ou_readGlyph (d := d) hap (TB_in f1 5) (TB_in f1 1) (by omega) f3.2.1 (by omega) hK hB hJ (fun L rg c' w rd h' a1 a2 a3 a4 t o1 o2 o3 o4 => ?_) (fun rd => absurd rd (hA k hk))
    have t' : ∀ b, (b < x + 29 ∨ x + 47 < b) → h' b = h b := fun b hb => t b (by omega)
    have o := (t' x (by omega)).trans hO
    simp -implicitDefEqProofs only [s_go, s_nil, s_cons, q_ins, s_op, s_i, s_j, s_a, s_v, s_li, s_lj, s_la, s_liO, s_ljO, s_laO, q_get, q_p1, q_p2, s_n2i, s_n2r, s_n2l, s_n2n, q_pad, q_ar, s_ob, s_obO, q_nth, s_ri, s_riO, s_rb, s_rbO, s_rzO, s_rl, s_rlO, s_rq, s_rqO, s_ry, s_ryO, s_dn, s_tl, s_tn, s_ap, s_an, s_ci, s_cr, s_ni, s_n0, s_n1, q_ags, q_cat, List.contains_nil, List.contains_cons, Nat.reduceBEq, Bool.or_false, Bool.false_or, Bool.true_or, Bool.false_eq_true, ↓reduceIte, Nat.le_refl, Nat.zero_le, true_and, and_true, Nat.reduceLeDiff, Nat.reduceAdd, Nat.add_zero, Nat.zero_add, List.length_cons, List.length_nil, List.set_cons_zero, List.set_cons_succ, Nat.reduceLT, s_fi, s_fl, s_fo, s_fa, s_f0, s_f1, s_set, s_ss, lg_cmp_ge, lg_cmp_le, lg_cmp_gt, lg_cmp_lt, lg_cmp_eq, s_brT, s_brF, s_10, w_FO_show, r_FO_show, l_FO_show_0, l_FO_show_26, f_7_39, f_7_31, f_7_19, ml_7_166, w_Ou_readGlyph, ty_7_5, o]
    refine hq _ (s_set _ _ _) (fun b b1 b2 => ?_) ?_
    · rw [s_ne _ _ b1]; exact t' b b2
    · refine SHN.mv (h := h') ⟨L, rg, c', w, a1, a2, a3, a4, rd, o1, o2, o3, o4⟩ (fun b b1 b2 => s_ne _ _ (by omega))
