/-! Font.firstWrong -/
def TT (F : Nat → Nat) (sz nm : Nat) : Nat × Nat := match FK F sz nm with
  | some j => (T_p F sz j, T_l F sz j)
  | none => (0, 0)
def t_cm (F : Nat → Nat) (sz : Nat) : Nat × Nat := TT F sz 1668112752
def t_gl (F : Nat → Nat) (sz : Nat) : Nat × Nat := TT F sz 1735162214
def t_he (F : Nat → Nat) (sz : Nat) : Nat × Nat := TT F sz 1751474532
def t_hh (F : Nat → Nat) (sz : Nat) : Nat × Nat := TT F sz 1751672161
def t_hm (F : Nat → Nat) (sz : Nat) : Nat × Nat := TT F sz 1752003704
def t_lo (F : Nat → Nat) (sz : Nat) : Nat × Nat := TT F sz 1819239265
def t_mx (F : Nat → Nat) (sz : Nat) : Nat × Nat := TT F sz 1835104368
def f_EM (F : Nat → Nat) (sz : Nat) : Nat := U16 F (t_he F sz).1 (t_he F sz).2 18
def f_LP (F : Nat → Nat) (sz : Nat) : Nat := U16 F (t_he F sz).1 (t_he F sz).2 50
def f_N (F : Nat → Nat) (sz : Nat) : Nat := U16 F (t_mx F sz).1 (t_mx F sz).2 4
def f_H (F : Nat → Nat) (sz : Nat) : Nat := U16 F (t_hh F sz).1 (t_hh F sz).2 34
def TAB_ok (F : Nat → Nat) (sz : Nat) : Prop := ∀ nm ∈ nms, FK F sz nm ≠ none
def FORM_ok (F : Nat → Nat) (sz : Nat) : Prop := CNT_ok F (t_he F sz).1 (t_he F sz).2 (t_mx F sz).1 (t_mx F sz).2 (t_hh F sz).1 (t_hh F sz).2 (t_hm F sz).2 ∧ PL_ok F (f_LP F sz = 1) (t_lo F sz).1 (t_lo F sz).2 (t_gl F sz).2 (f_N F sz) ∧ MAP_ok F (t_cm F sz).1 (t_cm F sz).2
/-- what is wrong first, but for the glyphs -/
def WRONG (F : Nat → Nat) (sz : Nat) (ch : Bool) (x : Int32) : Prop :=
  (¬ FILE_ok F sz ∧ x = -1) ∨ (FILE_ok F sz ∧ ch = true ∧ ¬ SUMS_ok F sz ∧ x = -2) ∨ (FILE_ok F sz ∧ (ch = true → SUMS_ok F sz) ∧ ¬ TAB_ok F sz ∧ x = -3) ∨ (FILE_ok F sz ∧ (ch = true → SUMS_ok F sz) ∧ TAB_ok F sz ∧ ¬ FORM_ok F sz ∧ x = -4)
def RIGHT (F : Nat → Nat) (sz : Nat) (ch : Bool) : Prop := FILE_ok F sz ∧ (ch = true → SUMS_ok F sz) ∧ TAB_ok F sz ∧ FORM_ok F sz
/-- the font's cells, whatever they show -/
def FoJ (h : q_H) (o : Nat) : Prop := (∃ em gl wd lp, h o = some (e_Fo o em gl wd lp) ∧ (lp = 0 ∨ lp = 1)) ∧ (∀ i, 4 ≤ i → i ≤ 11 → ∃ st ln, q_Ta h (o + i) (o + 1) st ln) ∧ ∃ og pl mn, h (o + 12) = some (e_Cm (o + 5) og pl mn) ∧ (og = 0 ∨ og = 1)
/-- the map's pieces -/
def mp_w (F : Nat → Nat) (sz : Nat) : Bool := match MAPe F (t_cm F sz).1 (t_cm F sz).2 with
  | some (w, _) => w
  | none => false
def mp_p (F : Nat → Nat) (sz : Nat) : Nat := match MAPe F (t_cm F sz).1 (t_cm F sz).2 with
  | some (_, p) => p
  | none => 0
def mp_n (F : Nat → Nat) (sz : Nat) : Nat := if mp_w F sz = true then U32 F (t_cm F sz).1 (t_cm F sz).2 (mp_p F sz + 12) else sg_D F (t_cm F sz).1 (t_cm F sz).2 (mp_p F sz) / 2
/-- the cells of a font read from F -/
def FoK (h : q_H) (o : Nat) (F : Nat → Nat) (sz : Nat) : Prop := h o = some (e_Fo o (nI (f_EM F sz)) (nI (f_N F sz)) (nI (f_H F sz)) (q_z (f_LP F sz = 1))) ∧ (∃ st ln, q_Ta h (o + 4) (o + 1) st ln) ∧ q_Ta h (o + 5) (o + 1) (t_cm F sz).1 (t_cm F sz).2 ∧ q_Ta h (o + 6) (o + 1) (t_gl F sz).1 (t_gl F sz).2 ∧ q_Ta h (o + 7) (o + 1) (t_he F sz).1 (t_he F sz).2 ∧ q_Ta h (o + 8) (o + 1) (t_hh F sz).1 (t_hh F sz).2 ∧ q_Ta h (o + 9) (o + 1) (t_hm F sz).1 (t_hm F sz).2 ∧ q_Ta h (o + 10) (o + 1) (t_lo F sz).1 (t_lo F sz).2 ∧ q_Ta h (o + 11) (o + 1) (t_mx F sz).1 (t_mx F sz).2 ∧ h (o + 12) = some (e_Cm (o + 5) (if mp_w F sz = true then 1 else 0) (nI (mp_p F sz)) (nI (mp_n F sz)))
/-- only the font's own cells have changed: o, o + 4 .. o + 12 -/
def q_fF (h h' : q_H) (o : Nat) : Prop := ∀ b, b ≠ o → (b < o + 4 ∨ o + 12 < b) → h' b = h b
theorem FKr_lt {F : Nat → Nat} {sz nm : Nat} : ∀ (r k j : Nat), FKr F sz nm k r = some j → j < k + r
  | 0, k, j, h => by cases h
  | r + 1, k, j, h => by
    unfold FKr at h
    split at h
    · cases h; omega
    · have := FKr_lt r (k + 1) j h; omega
theorem TT_e {F : Nat → Nat} {sz nm j : Nat} (h : FK F sz nm = some j) : TT F sz nm = (T_p F sz j, T_l F sz j) := by unfold TT; rw [h]
theorem TT_in {F : Nat → Nat} {sz nm j : Nat} (hf : FILE_ok F sz) (h : FK F sz nm = some j) : T_p F sz j + T_l F sz j ≤ sz := by
  have := FKr_lt _ _ _ h
  exact (hf.2.2.2.2 j (by omega)).2
theorem FoJ.row {h : q_H} {o row m sz : Nat} {g : Nat → Int32} {F : Nat → Nat} (hJ : FoJ h o) (hB : q_By h (o + 1) row m g sz F) : row ≠ o ∧ (row < o + 4 ∨ o + 12 < row) := by
  obtain ⟨⟨em, gl, wd, lp, hO, -⟩, hT, og, pl, mn, hM, -⟩ := hJ
  refine ⟨hB.ne (by unfold e_Fo at hO; exact hO), ?_⟩
  rcases Nat.lt_or_ge row (o + 4) with y | y
  · exact Or.inl y
  · rcases Nat.lt_or_ge (o + 12) row with z | z
    · exact Or.inr z
    · exfalso
      by_cases e : row = o + 12
      · exact hB.ne (by unfold e_Cm at hM; exact hM) e
      · obtain ⟨st, ln, ht⟩ := hT (row - o) (by omega) (by omega)
        exact hB.ne ht (by omega)
theorem nms_all {F : Nat → Nat} {sz : Nat} {j0 j1 j2 j3 j4 j5 j6 : Nat} (k0 : FK F sz 1668112752 = some j0) (k1 : FK F sz 1735162214 = some j1) (k2 : FK F sz 1751474532 = some j2) (k3 : FK F sz 1751672161 = some j3) (k4 : FK F sz 1752003704 = some j4) (k5 : FK F sz 1819239265 = some j5) (k6 : FK F sz 1835104368 = some j6) : TAB_ok F sz := by
  intro nm hn
  unfold nms at hn
  simp only [List.mem_cons, List.not_mem_nil, or_false] at hn
  rcases hn with rfl | rfl | rfl | rfl | rfl | rfl | rfl
  · rw [k0]; simp
  · rw [k1]; simp
  · rw [k2]; simp
  · rw [k3]; simp
  · rw [k4]; simp
  · rw [k5]; simp
  · rw [k6]; simp
theorem nms_none {F : Nat → Nat} {sz : Nat} (h : FK F sz 1668112752 = none ∨ FK F sz 1735162214 = none ∨ FK F sz 1751474532 = none ∨ FK F sz 1751672161 = none ∨ FK F sz 1752003704 = none ∨ FK F sz 1819239265 = none ∨ FK F sz 1835104368 = none) : ¬ TAB_ok F sz := by
  intro y
  rcases h with h | h | h | h | h | h | h <;> exact y _ (by unfold nms; simp) h
theorem FoJ.mv {h h' : q_H} {o : Nat} (hJ : FoJ h o) (f : q_fT h h' o) (hT : q_TJ h' o) : FoJ h' o := by
  obtain ⟨⟨em, gl, wd, lp, hO, hlp⟩, hTT, og, pl, mn, hM, hog⟩ := hJ
  refine ⟨⟨em, gl, wd, lp, (f o (by omega)).trans hO, hlp⟩, fun i h1 h2 => ?_, og, pl, mn, (f (o + 12) (by omega)).trans hM, hog⟩
  by_cases hi : i = 4
  · subst hi
    obtain ⟨st, ln, ht⟩ := hTT 4 (by omega) (by omega)
    exact ⟨st, ln, (f (o + 4) (by omega)).trans ht⟩
  · exact hT i (by omega) h2
theorem FoJ.setO {h : q_H} {o : Nat} (hJ : FoJ h o) (em gl wd lp : Int32) (hlp : lp = 0 ∨ lp = 1) : FoJ (q_set h o (e_Fo o em gl wd lp)) o := by
  obtain ⟨-, hTT, og, pl, mn, hM, hog⟩ := hJ
  refine ⟨⟨em, gl, wd, lp, s_set _ _ _, hlp⟩, fun i h1 h2 => ?_, og, pl, mn, by rw [s_ne _ _ (by omega)]; exact hM, hog⟩
  obtain ⟨st, ln, ht⟩ := hTT i h1 h2
  exact ⟨st, ln, by unfold q_Ta; rw [s_ne _ _ (by omega)]; exact ht⟩
theorem FoJ.setM {h : q_H} {o : Nat} (hJ : FoJ h o) (og pl mn : Int32) (hog : og = 0 ∨ og = 1) : FoJ (q_set h (o + 12) (e_Cm (o + 5) og pl mn)) o := by
  obtain ⟨⟨em, gl, wd, lp, hO, hlp⟩, hTT, -⟩ := hJ
  refine ⟨⟨em, gl, wd, lp, by rw [s_ne _ _ (by omega)]; exact hO, hlp⟩, fun i h1 h2 => ?_, og, pl, mn, s_set _ _ _, hog⟩
  obtain ⟨st, ln, ht⟩ := hTT i h1 h2
  exact ⟨st, ln, by unfold q_Ta; rw [s_ne _ _ (by omega)]; exact ht⟩
set_option maxRecDepth 100000 in
set_option maxHeartbeats 4000000 in
theorem z_Fo_firstWrong {G : q_G} {l : Launch} {d o row m n sz : Nat} {g : Nat → Int32} {F : Nat → Nat} {h : q_H} {Q : q_P} {x1 : Int32} (hJ : FoJ h o) (hW : q_Ta h (o + 3) (o + 1) 0 sz) (hB : q_By h (o + 1) row m g sz F) (hf : FILE_ok F sz)
    (q3 : ¬ TAB_ok F sz → ∀ h', q_fF h h' o → FoJ h' o → Q (some (.int (-3))) h' n) (q4 : TAB_ok F sz → ¬ FORM_ok F sz → ∀ h', q_fF h h' o → FoJ h' o → Q (some (.int (-4))) h' n) (q0 : TAB_ok F sz → FORM_ok F sz → ∀ h', q_fF h h' o → FoJ h' o → FoK h' o F sz → Q (some (.int 0)) h' n) :
    q_Z G l M_Fo_firstWrong (d + 5) 0 0 Q 23 [some (.ref o), some (.int x1)] [] h n 0 0 := by
  have hF := hB.2.2.2.2.2.2
  have hs : sz ≤ 16384 := Nat.le_trans hB.2.2.1 hB.2.2.2.1
  obtain ⟨hr1, hr2⟩ := hJ.row hB
  have hJ0 := hJ
  obtain ⟨⟨em, gl, wd, lp, hO, hlp⟩, hTT, og, pl, mn, hM, hog⟩ := hJ
  have hO' := hO
  unfold e_Fo at hO'
  have hTJ : q_TJ h o := fun i h1 h2 => hTT i (by omega) h2
  refine q_at o_Fo_firstWrong [] 20 l_Fo_firstWrong_23 ?_
  simp -implicitDefEqProofs only [s_go, s_nil, s_cons, q_ins, s_op, s_i, s_j, s_a, s_v, s_li, s_lj, s_la, s_liO, s_ljO, s_laO, q_get, q_p1, q_p2, s_n2i, s_n2r, s_n2l, s_n2n, q_pad, q_ar, s_ob, s_obO, q_nth, s_ri, s_riO, s_rb, s_rbO, s_rzO, s_rl, s_rlO, s_rq, s_rqO, s_ry, s_ryO, s_dn, s_tl, s_tn, s_ap, s_an, s_ci, s_cr, s_ni, s_n0, s_n1, q_ags, q_cat, List.contains_nil, List.contains_cons, Nat.reduceBEq, Bool.or_false, Bool.false_or, Bool.true_or, Bool.false_eq_true, ↓reduceIte, Nat.le_refl, Nat.zero_le, true_and, and_true, Nat.reduceLeDiff, Nat.reduceAdd, Nat.add_zero, Nat.zero_add, List.length_cons, List.length_nil, List.set_cons_zero, List.set_cons_succ, Nat.reduceLT, s_fi, s_fl, s_fo, s_fa, s_f0, s_f1, s_set, s_ss, lg_cmp_ge, lg_cmp_le, lg_cmp_gt, lg_cmp_lt, lg_cmp_eq, s_brT, s_brF, s_10, w_Fo_firstWrong, r_Fo_firstWrong, l_Fo_firstWrong_0, l_Fo_firstWrong_9, l_Fo_firstWrong_23, l_Fo_firstWrong_33, l_Fo_firstWrong_57, l_Fo_firstWrong_60, ml_3_71, w_Fo_isFile, kc_m1, ml_3_75, w_Fo_hasSums, kb_m2, ml_3_78, w_Fo_hasTables, kb_m3, ml_3_81, w_Fo_hasCounts, ml_3_84, w_Fo_hasPlaces, f_3_56, ml_3_87, w_Cm_isFound, kb_m4, kc_0, hO']
  refine q_c0 (Nat.le_refl _) (Nat.le_refl _) ?_
  refine c_Fo_hasTables hO hW hB hTJ (by omega) hf.2.2.1 (fun j0 j1 j2 j3 j4 j5 j6 k0 k1 k2 k3 k4 k5 k6 h1 f1 a0 a1 a2 a3 a4 a5 a6 => ?_) (fun z h1 f1 J1 => ?_)
  rotate_left
  · simp -implicitDefEqProofs only [s_go, s_nil, s_cons, q_ins, s_op, s_i, s_j, s_a, s_v, s_li, s_lj, s_la, s_liO, s_ljO, s_laO, q_get, q_p1, q_p2, s_n2i, s_n2r, s_n2l, s_n2n, q_pad, q_ar, s_ob, s_obO, q_nth, s_ri, s_riO, s_rb, s_rbO, s_rzO, s_rl, s_rlO, s_rq, s_rqO, s_ry, s_ryO, s_dn, s_tl, s_tn, s_ap, s_an, s_ci, s_cr, s_ni, s_n0, s_n1, q_ags, q_cat, List.contains_nil, List.contains_cons, Nat.reduceBEq, Bool.or_false, Bool.false_or, Bool.true_or, Bool.false_eq_true, ↓reduceIte, Nat.le_refl, Nat.zero_le, true_and, and_true, Nat.reduceLeDiff, Nat.reduceAdd, Nat.add_zero, Nat.zero_add, List.length_cons, List.length_nil, List.set_cons_zero, List.set_cons_succ, Nat.reduceLT, s_fi, s_fl, s_fo, s_fa, s_f0, s_f1, s_set, s_ss, lg_cmp_ge, lg_cmp_le, lg_cmp_gt, lg_cmp_lt, lg_cmp_eq, s_brT, s_brF, s_10, w_Fo_firstWrong, r_Fo_firstWrong, l_Fo_firstWrong_0, l_Fo_firstWrong_9, l_Fo_firstWrong_23, l_Fo_firstWrong_33, l_Fo_firstWrong_57, l_Fo_firstWrong_60, ml_3_71, w_Fo_isFile, kc_m1, ml_3_75, w_Fo_hasSums, kb_m2, ml_3_78, w_Fo_hasTables, kb_m3, ml_3_81, w_Fo_hasCounts, ml_3_84, w_Fo_hasPlaces, f_3_56, ml_3_87, w_Cm_isFound, kb_m4, kc_0]
    exact q3 (nms_none z) h1 (fun b b1 b2 => f1 b (by omega)) (hJ0.mv f1 J1)
  have tab : TAB_ok F sz := nms_all k0 k1 k2 k3 k4 k5 k6
  have i0 := TT_in hf k0
  have i1 := TT_in hf k1
  have i2 := TT_in hf k2
  have i3 := TT_in hf k3
  have i4 := TT_in hf k4
  have i5 := TT_in hf k5
  have i6 := TT_in hf k6
  have e0 : t_cm F sz = (T_p F sz j0, T_l F sz j0) := TT_e k0
  have e1 : t_gl F sz = (T_p F sz j1, T_l F sz j1) := TT_e k1
  have e2 : t_he F sz = (T_p F sz j2, T_l F sz j2) := TT_e k2
  have e3 : t_hh F sz = (T_p F sz j3, T_l F sz j3) := TT_e k3
  have e4 : t_hm F sz = (T_p F sz j4, T_l F sz j4) := TT_e k4
  have e5 : t_lo F sz = (T_p F sz j5, T_l F sz j5) := TT_e k5
  have e6 : t_mx F sz = (T_p F sz j6, T_l F sz j6) := TT_e k6
  have J1 : FoJ h1 o := hJ0.mv f1 (fun i g1 g2 => by
    match i, g1, g2 with
    | 5, _, _ => exact ⟨_, _, a0⟩
    | 6, _, _ => exact ⟨_, _, a1⟩
    | 7, _, _ => exact ⟨_, _, a2⟩
    | 8, _, _ => exact ⟨_, _, a3⟩
    | 9, _, _ => exact ⟨_, _, a4⟩
    | 10, _, _ => exact ⟨_, _, a5⟩
    | 11, _, _ => exact ⟨_, _, a6⟩
    | i + 12, _, g2 => omega)
  have O1 : h1 o = some (e_Fo o em gl wd lp) := (f1 o (by omega)).trans hO
  have B1 : q_By h1 (o + 1) row m g sz F := hB.mv (f1 _ (by omega)) (f1 _ (by omega))
  have F1 : q_fF h h1 o := fun b b1 b2 => f1 b (by omega)
  have O1' := O1
  unfold e_Fo at O1'
  simp -implicitDefEqProofs only [s_go, s_nil, s_cons, q_ins, s_op, s_i, s_j, s_a, s_v, s_li, s_lj, s_la, s_liO, s_ljO, s_laO, q_get, q_p1, q_p2, s_n2i, s_n2r, s_n2l, s_n2n, q_pad, q_ar, s_ob, s_obO, q_nth, s_ri, s_riO, s_rb, s_rbO, s_rzO, s_rl, s_rlO, s_rq, s_rqO, s_ry, s_ryO, s_dn, s_tl, s_tn, s_ap, s_an, s_ci, s_cr, s_ni, s_n0, s_n1, q_ags, q_cat, List.contains_nil, List.contains_cons, Nat.reduceBEq, Bool.or_false, Bool.false_or, Bool.true_or, Bool.false_eq_true, ↓reduceIte, Nat.le_refl, Nat.zero_le, true_and, and_true, Nat.reduceLeDiff, Nat.reduceAdd, Nat.add_zero, Nat.zero_add, List.length_cons, List.length_nil, List.set_cons_zero, List.set_cons_succ, Nat.reduceLT, s_fi, s_fl, s_fo, s_fa, s_f0, s_f1, s_set, s_ss, lg_cmp_ge, lg_cmp_le, lg_cmp_gt, lg_cmp_lt, lg_cmp_eq, s_brT, s_brF, s_10, w_Fo_firstWrong, r_Fo_firstWrong, l_Fo_firstWrong_0, l_Fo_firstWrong_9, l_Fo_firstWrong_23, l_Fo_firstWrong_33, l_Fo_firstWrong_57, l_Fo_firstWrong_60, ml_3_71, w_Fo_isFile, kc_m1, ml_3_75, w_Fo_hasSums, kb_m2, ml_3_78, w_Fo_hasTables, kb_m3, ml_3_81, w_Fo_hasCounts, ml_3_84, w_Fo_hasPlaces, f_3_56, ml_3_87, w_Cm_isFound, kb_m4, kc_0, O1']
  refine q_c0 (Nat.le_refl _) (Nat.le_refl _) ?_
  refine c_Fo_hasCounts O1 B1 a2 a3 a4 a6 i2 i3 i4 i6 hlp (fun z => ?_) (fun z em gl wd lp hl => ?_)
  rotate_left
  · simp -implicitDefEqProofs only [s_go, s_nil, s_cons, q_ins, s_op, s_i, s_j, s_a, s_v, s_li, s_lj, s_la, s_liO, s_ljO, s_laO, q_get, q_p1, q_p2, s_n2i, s_n2r, s_n2l, s_n2n, q_pad, q_ar, s_ob, s_obO, q_nth, s_ri, s_riO, s_rb, s_rbO, s_rzO, s_rl, s_rlO, s_rq, s_rqO, s_ry, s_ryO, s_dn, s_tl, s_tn, s_ap, s_an, s_ci, s_cr, s_ni, s_n0, s_n1, q_ags, q_cat, List.contains_nil, List.contains_cons, Nat.reduceBEq, Bool.or_false, Bool.false_or, Bool.true_or, Bool.false_eq_true, ↓reduceIte, Nat.le_refl, Nat.zero_le, true_and, and_true, Nat.reduceLeDiff, Nat.reduceAdd, Nat.add_zero, Nat.zero_add, List.length_cons, List.length_nil, List.set_cons_zero, List.set_cons_succ, Nat.reduceLT, s_fi, s_fl, s_fo, s_fa, s_f0, s_f1, s_set, s_ss, lg_cmp_ge, lg_cmp_le, lg_cmp_gt, lg_cmp_lt, lg_cmp_eq, s_brT, s_brF, s_10, w_Fo_firstWrong, r_Fo_firstWrong, l_Fo_firstWrong_0, l_Fo_firstWrong_9, l_Fo_firstWrong_23, l_Fo_firstWrong_33, l_Fo_firstWrong_57, l_Fo_firstWrong_60, ml_3_71, w_Fo_isFile, kc_m1, ml_3_75, w_Fo_hasSums, kb_m2, ml_3_78, w_Fo_hasTables, kb_m3, ml_3_81, w_Fo_hasCounts, ml_3_84, w_Fo_hasPlaces, f_3_56, ml_3_87, w_Cm_isFound, kb_m4, kc_0]
    refine q4 tab (fun y => z ?_) _ (fun b b1 b2 => by rw [s_ne _ _ b1]; exact F1 b b1 b2) (J1.setO em gl wd lp hl)
    have := y.1
    rw [e2, e3, e4, e6] at this
    exact this
  have n1 : f_N F sz = U16 F (T_p F sz j6) (T_l F sz j6) 4 := by unfold f_N; rw [e6]
  have n2 : f_EM F sz = U16 F (T_p F sz j2) (T_l F sz j2) 18 := by unfold f_EM; rw [e2]
  have n3 : f_H F sz = U16 F (T_p F sz j3) (T_l F sz j3) 34 := by unfold f_H; rw [e3]
  have n4 : f_LP F sz = U16 F (T_p F sz j2) (T_l F sz j2) 50 := by unfold f_LP; rw [e2]
  rw [← n1, ← n2, ← n3]
  simp only [← n4]
  generalize hh2 : q_set h1 o _ = h2
  have fr2 : ∀ b, b ≠ o → h2 b = h1 b := fun b hb => by rw [← hh2]; exact s_ne _ _ hb
  have O2 : h2 o = some (e_Fo o (nI (f_EM F sz)) (nI (f_N F sz)) (nI (f_H F sz)) (q_z (f_LP F sz = 1))) := by rw [← hh2]; exact s_set _ _ _
  have J2 : FoJ h2 o := by
    rw [← hh2]
    exact J1.setO _ _ _ _ (by unfold q_z; split; exact Or.inr rfl; exact Or.inl rfl)
  have F2 : q_fF h h2 o := fun b b1 b2 => (fr2 b b1).trans (F1 b b1 b2)
  have B2 : q_By h2 (o + 1) row m g sz F := B1.mv (fr2 _ (by omega)) (fr2 _ hr1)
  have c1 : q_Ta h2 (o + 5) (o + 1) (T_p F sz j0) (T_l F sz j0) := (fr2 _ (by omega)).trans a0
  have c2 : q_Ta h2 (o + 6) (o + 1) (T_p F sz j1) (T_l F sz j1) := (fr2 _ (by omega)).trans a1
  have c3 : q_Ta h2 (o + 7) (o + 1) (T_p F sz j2) (T_l F sz j2) := (fr2 _ (by omega)).trans a2
  have c4 : q_Ta h2 (o + 8) (o + 1) (T_p F sz j3) (T_l F sz j3) := (fr2 _ (by omega)).trans a3
  have c5 : q_Ta h2 (o + 9) (o + 1) (T_p F sz j4) (T_l F sz j4) := (fr2 _ (by omega)).trans a4
  have c6 : q_Ta h2 (o + 10) (o + 1) (T_p F sz j5) (T_l F sz j5) := (fr2 _ (by omega)).trans a5
  have c7 : q_Ta h2 (o + 11) (o + 1) (T_p F sz j6) (T_l F sz j6) := (fr2 _ (by omega)).trans a6
  have N256 : f_N F sz ≤ 256 := by rw [n1]; exact z.2.2.2.2.2.1
  have O2' := O2
  unfold e_Fo at O2'
  simp -implicitDefEqProofs only [s_go, s_nil, s_cons, q_ins, s_op, s_i, s_j, s_a, s_v, s_li, s_lj, s_la, s_liO, s_ljO, s_laO, q_get, q_p1, q_p2, s_n2i, s_n2r, s_n2l, s_n2n, q_pad, q_ar, s_ob, s_obO, q_nth, s_ri, s_riO, s_rb, s_rbO, s_rzO, s_rl, s_rlO, s_rq, s_rqO, s_ry, s_ryO, s_dn, s_tl, s_tn, s_ap, s_an, s_ci, s_cr, s_ni, s_n0, s_n1, q_ags, q_cat, List.contains_nil, List.contains_cons, Nat.reduceBEq, Bool.or_false, Bool.false_or, Bool.true_or, Bool.false_eq_true, ↓reduceIte, Nat.le_refl, Nat.zero_le, true_and, and_true, Nat.reduceLeDiff, Nat.reduceAdd, Nat.add_zero, Nat.zero_add, List.length_cons, List.length_nil, List.set_cons_zero, List.set_cons_succ, Nat.reduceLT, s_fi, s_fl, s_fo, s_fa, s_f0, s_f1, s_set, s_ss, lg_cmp_ge, lg_cmp_le, lg_cmp_gt, lg_cmp_lt, lg_cmp_eq, s_brT, s_brF, s_10, w_Fo_firstWrong, r_Fo_firstWrong, l_Fo_firstWrong_0, l_Fo_firstWrong_9, l_Fo_firstWrong_23, l_Fo_firstWrong_33, l_Fo_firstWrong_57, l_Fo_firstWrong_60, ml_3_71, w_Fo_isFile, kc_m1, ml_3_75, w_Fo_hasSums, kb_m2, ml_3_78, w_Fo_hasTables, kb_m3, ml_3_81, w_Fo_hasCounts, ml_3_84, w_Fo_hasPlaces, f_3_56, ml_3_87, w_Cm_isFound, kb_m4, kc_0, O2']
  refine q_c0 (Nat.le_refl _) (Nat.le_refl _) ?_
  refine c_Fo_hasPlaces O2 B2 c6 c2 i5 i1 N256 (fun y => ?_) (fun y => ?_)
  rotate_left
  · simp -implicitDefEqProofs only [s_go, s_nil, s_cons, q_ins, s_op, s_i, s_j, s_a, s_v, s_li, s_lj, s_la, s_liO, s_ljO, s_laO, q_get, q_p1, q_p2, s_n2i, s_n2r, s_n2l, s_n2n, q_pad, q_ar, s_ob, s_obO, q_nth, s_ri, s_riO, s_rb, s_rbO, s_rzO, s_rl, s_rlO, s_rq, s_rqO, s_ry, s_ryO, s_dn, s_tl, s_tn, s_ap, s_an, s_ci, s_cr, s_ni, s_n0, s_n1, q_ags, q_cat, List.contains_nil, List.contains_cons, Nat.reduceBEq, Bool.or_false, Bool.false_or, Bool.true_or, Bool.false_eq_true, ↓reduceIte, Nat.le_refl, Nat.zero_le, true_and, and_true, Nat.reduceLeDiff, Nat.reduceAdd, Nat.add_zero, Nat.zero_add, List.length_cons, List.length_nil, List.set_cons_zero, List.set_cons_succ, Nat.reduceLT, s_fi, s_fl, s_fo, s_fa, s_f0, s_f1, s_set, s_ss, lg_cmp_ge, lg_cmp_le, lg_cmp_gt, lg_cmp_lt, lg_cmp_eq, s_brT, s_brF, s_10, w_Fo_firstWrong, r_Fo_firstWrong, l_Fo_firstWrong_0, l_Fo_firstWrong_9, l_Fo_firstWrong_23, l_Fo_firstWrong_33, l_Fo_firstWrong_57, l_Fo_firstWrong_60, ml_3_71, w_Fo_isFile, kc_m1, ml_3_75, w_Fo_hasSums, kb_m2, ml_3_78, w_Fo_hasTables, kb_m3, ml_3_81, w_Fo_hasCounts, ml_3_84, w_Fo_hasPlaces, f_3_56, ml_3_87, w_Cm_isFound, kb_m4, kc_0]
    refine q4 tab (fun w => y ?_) _ F2 J2
    have := w.2.1
    rw [e5, e1] at this
    exact this
  have J2' := J2
  obtain ⟨-, -, og2, pl2, mn2, M2, hog2⟩ := J2'
  have M2' := M2
  unfold e_Cm at M2'
  simp -implicitDefEqProofs only [s_go, s_nil, s_cons, q_ins, s_op, s_i, s_j, s_a, s_v, s_li, s_lj, s_la, s_liO, s_ljO, s_laO, q_get, q_p1, q_p2, s_n2i, s_n2r, s_n2l, s_n2n, q_pad, q_ar, s_ob, s_obO, q_nth, s_ri, s_riO, s_rb, s_rbO, s_rzO, s_rl, s_rlO, s_rq, s_rqO, s_ry, s_ryO, s_dn, s_tl, s_tn, s_ap, s_an, s_ci, s_cr, s_ni, s_n0, s_n1, q_ags, q_cat, List.contains_nil, List.contains_cons, Nat.reduceBEq, Bool.or_false, Bool.false_or, Bool.true_or, Bool.false_eq_true, ↓reduceIte, Nat.le_refl, Nat.zero_le, true_and, and_true, Nat.reduceLeDiff, Nat.reduceAdd, Nat.add_zero, Nat.zero_add, List.length_cons, List.length_nil, List.set_cons_zero, List.set_cons_succ, Nat.reduceLT, s_fi, s_fl, s_fo, s_fa, s_f0, s_f1, s_set, s_ss, lg_cmp_ge, lg_cmp_le, lg_cmp_gt, lg_cmp_lt, lg_cmp_eq, s_brT, s_brF, s_10, w_Fo_firstWrong, r_Fo_firstWrong, l_Fo_firstWrong_0, l_Fo_firstWrong_9, l_Fo_firstWrong_23, l_Fo_firstWrong_33, l_Fo_firstWrong_57, l_Fo_firstWrong_60, ml_3_71, w_Fo_isFile, kc_m1, ml_3_75, w_Fo_hasSums, kb_m2, ml_3_78, w_Fo_hasTables, kb_m3, ml_3_81, w_Fo_hasCounts, ml_3_84, w_Fo_hasPlaces, f_3_56, ml_3_87, w_Cm_isFound, kb_m4, kc_0, O2', M2']
  refine q_c0 (Nat.le_refl _) (Nat.le_refl _) ?_
  have cnt : CNT_ok F (t_he F sz).1 (t_he F sz).2 (t_mx F sz).1 (t_mx F sz).2 (t_hh F sz).1 (t_hh F sz).2 (t_hm F sz).2 := by rw [e2, e3, e4, e6]; exact z
  have pla : PL_ok F (f_LP F sz = 1) (t_lo F sz).1 (t_lo F sz).2 (t_gl F sz).2 (f_N F sz) := by rw [e5, e1]; exact y
  have kk : ∀ w p N, MAP_ok F (T_p F sz j0) (T_l F sz j0) → MAPe F (T_p F sz j0) (T_l F sz j0) = some (w, p) → N = (if w = true then U32 F (T_p F sz j0) (T_l F sz j0) (p + 12) else sg_D F (T_p F sz j0) (T_l F sz j0) p / 2) → Q (some (.int 0)) (q_set h2 (o + 12) (e_Cm (o + 5) (if w = true then 1 else 0) (nI p) (nI N))) n := by
    intro w p N mok me hN
    have m1 : mp_w F sz = w := by unfold mp_w; rw [e0]; dsimp only; rw [me]
    have m2 : mp_p F sz = p := by unfold mp_p; rw [e0]; dsimp only; rw [me]
    have m3 : mp_n F sz = N := by unfold mp_n; rw [m1, m2, hN, e0]
    have v : ∀ b, b ≠ o + 12 → q_set h2 (o + 12) (e_Cm (o + 5) (if w = true then 1 else 0) (nI p) (nI N)) b = h2 b := fun b hb => s_ne _ _ hb
    refine q0 tab ⟨cnt, pla, by rw [e0]; exact mok⟩ _ (fun b b1 b2 => (v b (by omega)).trans (F2 b b1 b2)) (J2.setM _ _ _ (by split; exact Or.inr rfl; exact Or.inl rfl)) ?_
    obtain ⟨st, ln, h4⟩ := J2.2.1 4 (by omega) (by omega)
    refine ⟨(v o (by omega)).trans O2, ⟨st, ln, (v _ (by omega)).trans h4⟩, ?_, ?_, ?_, ?_, ?_, ?_, ?_, ?_⟩
    · rw [e0]; exact (v _ (by omega)).trans c1
    · rw [e1]; exact (v _ (by omega)).trans c2
    · rw [e2]; exact (v _ (by omega)).trans c3
    · rw [e3]; exact (v _ (by omega)).trans c4
    · rw [e4]; exact (v _ (by omega)).trans c5
    · rw [e5]; exact (v _ (by omega)).trans c6
    · rw [e6]; exact (v _ (by omega)).trans c7
    · rw [m1, m2, m3]; exact s_set _ _ _
  refine c_Cm_isFound M2 c1 B2 i0 hog2 (fun p mok me gr => ?_) (fun p mok me sg => ?_) (fun w og pl mn ho => ?_)
  · simp -implicitDefEqProofs only [s_go, s_nil, s_cons, q_ins, s_op, s_i, s_j, s_a, s_v, s_li, s_lj, s_la, s_liO, s_ljO, s_laO, q_get, q_p1, q_p2, s_n2i, s_n2r, s_n2l, s_n2n, q_pad, q_ar, s_ob, s_obO, q_nth, s_ri, s_riO, s_rb, s_rbO, s_rzO, s_rl, s_rlO, s_rq, s_rqO, s_ry, s_ryO, s_dn, s_tl, s_tn, s_ap, s_an, s_ci, s_cr, s_ni, s_n0, s_n1, q_ags, q_cat, List.contains_nil, List.contains_cons, Nat.reduceBEq, Bool.or_false, Bool.false_or, Bool.true_or, Bool.false_eq_true, ↓reduceIte, Nat.le_refl, Nat.zero_le, true_and, and_true, Nat.reduceLeDiff, Nat.reduceAdd, Nat.add_zero, Nat.zero_add, List.length_cons, List.length_nil, List.set_cons_zero, List.set_cons_succ, Nat.reduceLT, s_fi, s_fl, s_fo, s_fa, s_f0, s_f1, s_set, s_ss, lg_cmp_ge, lg_cmp_le, lg_cmp_gt, lg_cmp_lt, lg_cmp_eq, s_brT, s_brF, s_10, w_Fo_firstWrong, r_Fo_firstWrong, l_Fo_firstWrong_0, l_Fo_firstWrong_9, l_Fo_firstWrong_23, l_Fo_firstWrong_33, l_Fo_firstWrong_57, l_Fo_firstWrong_60, ml_3_71, w_Fo_isFile, kc_m1, ml_3_75, w_Fo_hasSums, kb_m2, ml_3_78, w_Fo_hasTables, kb_m3, ml_3_81, w_Fo_hasCounts, ml_3_84, w_Fo_hasPlaces, f_3_56, ml_3_87, w_Cm_isFound, kb_m4, kc_0]
    exact kk true p _ mok me rfl
  · simp -implicitDefEqProofs only [s_go, s_nil, s_cons, q_ins, s_op, s_i, s_j, s_a, s_v, s_li, s_lj, s_la, s_liO, s_ljO, s_laO, q_get, q_p1, q_p2, s_n2i, s_n2r, s_n2l, s_n2n, q_pad, q_ar, s_ob, s_obO, q_nth, s_ri, s_riO, s_rb, s_rbO, s_rzO, s_rl, s_rlO, s_rq, s_rqO, s_ry, s_ryO, s_dn, s_tl, s_tn, s_ap, s_an, s_ci, s_cr, s_ni, s_n0, s_n1, q_ags, q_cat, List.contains_nil, List.contains_cons, Nat.reduceBEq, Bool.or_false, Bool.false_or, Bool.true_or, Bool.false_eq_true, ↓reduceIte, Nat.le_refl, Nat.zero_le, true_and, and_true, Nat.reduceLeDiff, Nat.reduceAdd, Nat.add_zero, Nat.zero_add, List.length_cons, List.length_nil, List.set_cons_zero, List.set_cons_succ, Nat.reduceLT, s_fi, s_fl, s_fo, s_fa, s_f0, s_f1, s_set, s_ss, lg_cmp_ge, lg_cmp_le, lg_cmp_gt, lg_cmp_lt, lg_cmp_eq, s_brT, s_brF, s_10, w_Fo_firstWrong, r_Fo_firstWrong, l_Fo_firstWrong_0, l_Fo_firstWrong_9, l_Fo_firstWrong_23, l_Fo_firstWrong_33, l_Fo_firstWrong_57, l_Fo_firstWrong_60, ml_3_71, w_Fo_isFile, kc_m1, ml_3_75, w_Fo_hasSums, kb_m2, ml_3_78, w_Fo_hasTables, kb_m3, ml_3_81, w_Fo_hasCounts, ml_3_84, w_Fo_hasPlaces, f_3_56, ml_3_87, w_Cm_isFound, kb_m4, kc_0]
    exact kk false p _ mok me rfl
  · simp -implicitDefEqProofs only [s_go, s_nil, s_cons, q_ins, s_op, s_i, s_j, s_a, s_v, s_li, s_lj, s_la, s_liO, s_ljO, s_laO, q_get, q_p1, q_p2, s_n2i, s_n2r, s_n2l, s_n2n, q_pad, q_ar, s_ob, s_obO, q_nth, s_ri, s_riO, s_rb, s_rbO, s_rzO, s_rl, s_rlO, s_rq, s_rqO, s_ry, s_ryO, s_dn, s_tl, s_tn, s_ap, s_an, s_ci, s_cr, s_ni, s_n0, s_n1, q_ags, q_cat, List.contains_nil, List.contains_cons, Nat.reduceBEq, Bool.or_false, Bool.false_or, Bool.true_or, Bool.false_eq_true, ↓reduceIte, Nat.le_refl, Nat.zero_le, true_and, and_true, Nat.reduceLeDiff, Nat.reduceAdd, Nat.add_zero, Nat.zero_add, List.length_cons, List.length_nil, List.set_cons_zero, List.set_cons_succ, Nat.reduceLT, s_fi, s_fl, s_fo, s_fa, s_f0, s_f1, s_set, s_ss, lg_cmp_ge, lg_cmp_le, lg_cmp_gt, lg_cmp_lt, lg_cmp_eq, s_brT, s_brF, s_10, w_Fo_firstWrong, r_Fo_firstWrong, l_Fo_firstWrong_0, l_Fo_firstWrong_9, l_Fo_firstWrong_23, l_Fo_firstWrong_33, l_Fo_firstWrong_57, l_Fo_firstWrong_60, ml_3_71, w_Fo_isFile, kc_m1, ml_3_75, w_Fo_hasSums, kb_m2, ml_3_78, w_Fo_hasTables, kb_m3, ml_3_81, w_Fo_hasCounts, ml_3_84, w_Fo_hasPlaces, f_3_56, ml_3_87, w_Cm_isFound, kb_m4, kc_0]
    refine q4 tab (fun u => w ?_) _ (fun b b1 b2 => by rw [s_ne _ _ (by omega)]; exact F2 b b1 b2) (J2.setM og pl mn ho)
    have := u.2.2
    rw [e0] at this
    exact this
set_option maxRecDepth 100000 in
set_option maxHeartbeats 4000000 in
theorem c_Fo_firstWrong {G : q_G} {l : Launch} {d o row m n sz : Nat} {g : Nat → Int32} {F : Nat → Nat} {h : q_H} {Q : q_P} {ch : Bool} (hJ : FoJ h o) (hW : q_Ta h (o + 3) (o + 1) 0 sz) (hB : q_By h (o + 1) row m g sz F)
    (q1 : ∀ x, WRONG F sz ch x → ∀ h', q_fF h h' o → FoJ h' o → Q (some (.int x)) h' n) (q0 : RIGHT F sz ch → ∀ h', q_fF h h' o → FoJ h' o → FoK h' o F sz → Q (some (.int 0)) h' n) : q_Call G l M_Fo_firstWrong (d + 5) 0 0 [.ref o, .int (if ch = true then 1 else 0)] h n Q := by
  have hJ0 := hJ
  obtain ⟨hr1, hr2⟩ := hJ.row hB
  obtain ⟨⟨em, gl, wd, lp, hO, hlp⟩, hTT, og, pl, mn, hM, hog⟩ := hJ
  have hO' := hO
  unfold e_Fo at hO'
  refine q_in u_Fo_firstWrong (by rw [L_Fo_firstWrong]; exact Nat.le_of_ble_eq_true rfl) ?_
  rw [L_Fo_firstWrong]
  refine q_at o_Fo_firstWrong [23] 20 l_Fo_firstWrong_0 ?_
  simp -implicitDefEqProofs only [s_go, s_nil, s_cons, q_ins, s_op, s_i, s_j, s_a, s_v, s_li, s_lj, s_la, s_liO, s_ljO, s_laO, q_get, q_p1, q_p2, s_n2i, s_n2r, s_n2l, s_n2n, q_pad, q_ar, s_ob, s_obO, q_nth, s_ri, s_riO, s_rb, s_rbO, s_rzO, s_rl, s_rlO, s_rq, s_rqO, s_ry, s_ryO, s_dn, s_tl, s_tn, s_ap, s_an, s_ci, s_cr, s_ni, s_n0, s_n1, q_ags, q_cat, List.contains_nil, List.contains_cons, Nat.reduceBEq, Bool.or_false, Bool.false_or, Bool.true_or, Bool.false_eq_true, ↓reduceIte, Nat.le_refl, Nat.zero_le, true_and, and_true, Nat.reduceLeDiff, Nat.reduceAdd, Nat.add_zero, Nat.zero_add, List.length_cons, List.length_nil, List.set_cons_zero, List.set_cons_succ, Nat.reduceLT, s_fi, s_fl, s_fo, s_fa, s_f0, s_f1, s_set, s_ss, lg_cmp_ge, lg_cmp_le, lg_cmp_gt, lg_cmp_lt, lg_cmp_eq, s_brT, s_brF, s_10, w_Fo_firstWrong, r_Fo_firstWrong, l_Fo_firstWrong_0, l_Fo_firstWrong_9, l_Fo_firstWrong_23, l_Fo_firstWrong_33, l_Fo_firstWrong_57, l_Fo_firstWrong_60, ml_3_71, w_Fo_isFile, kc_m1, ml_3_75, w_Fo_hasSums, kb_m2, ml_3_78, w_Fo_hasTables, kb_m3, ml_3_81, w_Fo_hasCounts, ml_3_84, w_Fo_hasPlaces, f_3_56, ml_3_87, w_Cm_isFound, kb_m4, kc_0, hO']
  refine q_c0 (Nat.le_refl _) (Nat.le_refl _) ?_
  refine c_Fo_isFile hO hW hB (fun hf => ?_) (fun hf => ?_)
  rotate_left
  · simp -implicitDefEqProofs only [s_go, s_nil, s_cons, q_ins, s_op, s_i, s_j, s_a, s_v, s_li, s_lj, s_la, s_liO, s_ljO, s_laO, q_get, q_p1, q_p2, s_n2i, s_n2r, s_n2l, s_n2n, q_pad, q_ar, s_ob, s_obO, q_nth, s_ri, s_riO, s_rb, s_rbO, s_rzO, s_rl, s_rlO, s_rq, s_rqO, s_ry, s_ryO, s_dn, s_tl, s_tn, s_ap, s_an, s_ci, s_cr, s_ni, s_n0, s_n1, q_ags, q_cat, List.contains_nil, List.contains_cons, Nat.reduceBEq, Bool.or_false, Bool.false_or, Bool.true_or, Bool.false_eq_true, ↓reduceIte, Nat.le_refl, Nat.zero_le, true_and, and_true, Nat.reduceLeDiff, Nat.reduceAdd, Nat.add_zero, Nat.zero_add, List.length_cons, List.length_nil, List.set_cons_zero, List.set_cons_succ, Nat.reduceLT, s_fi, s_fl, s_fo, s_fa, s_f0, s_f1, s_set, s_ss, lg_cmp_ge, lg_cmp_le, lg_cmp_gt, lg_cmp_lt, lg_cmp_eq, s_brT, s_brF, s_10, w_Fo_firstWrong, r_Fo_firstWrong, l_Fo_firstWrong_0, l_Fo_firstWrong_9, l_Fo_firstWrong_23, l_Fo_firstWrong_33, l_Fo_firstWrong_57, l_Fo_firstWrong_60, ml_3_71, w_Fo_isFile, kc_m1, ml_3_75, w_Fo_hasSums, kb_m2, ml_3_78, w_Fo_hasTables, kb_m3, ml_3_81, w_Fo_hasCounts, ml_3_84, w_Fo_hasPlaces, f_3_56, ml_3_87, w_Cm_isFound, kb_m4, kc_0]
    exact q1 (-1) (Or.inl ⟨hf, rfl⟩) h (fun _ _ _ => rfl) hJ0
  simp -implicitDefEqProofs only [s_go, s_nil, s_cons, q_ins, s_op, s_i, s_j, s_a, s_v, s_li, s_lj, s_la, s_liO, s_ljO, s_laO, q_get, q_p1, q_p2, s_n2i, s_n2r, s_n2l, s_n2n, q_pad, q_ar, s_ob, s_obO, q_nth, s_ri, s_riO, s_rb, s_rbO, s_rzO, s_rl, s_rlO, s_rq, s_rqO, s_ry, s_ryO, s_dn, s_tl, s_tn, s_ap, s_an, s_ci, s_cr, s_ni, s_n0, s_n1, q_ags, q_cat, List.contains_nil, List.contains_cons, Nat.reduceBEq, Bool.or_false, Bool.false_or, Bool.true_or, Bool.false_eq_true, ↓reduceIte, Nat.le_refl, Nat.zero_le, true_and, and_true, Nat.reduceLeDiff, Nat.reduceAdd, Nat.add_zero, Nat.zero_add, List.length_cons, List.length_nil, List.set_cons_zero, List.set_cons_succ, Nat.reduceLT, s_fi, s_fl, s_fo, s_fa, s_f0, s_f1, s_set, s_ss, lg_cmp_ge, lg_cmp_le, lg_cmp_gt, lg_cmp_lt, lg_cmp_eq, s_brT, s_brF, s_10, w_Fo_firstWrong, r_Fo_firstWrong, l_Fo_firstWrong_0, l_Fo_firstWrong_9, l_Fo_firstWrong_23, l_Fo_firstWrong_33, l_Fo_firstWrong_57, l_Fo_firstWrong_60, ml_3_71, w_Fo_isFile, kc_m1, ml_3_75, w_Fo_hasSums, kb_m2, ml_3_78, w_Fo_hasTables, kb_m3, ml_3_81, w_Fo_hasCounts, ml_3_84, w_Fo_hasPlaces, f_3_56, ml_3_87, w_Cm_isFound, kb_m4, kc_0, hO']
  cases ch with
  | false =>
    refine ⟨fun _ => ?_, fun z => absurd rfl z⟩
    exact z_Fo_firstWrong hJ0 hW hB hf (fun z h' f j => q1 (-3) (Or.inr (Or.inr (Or.inl ⟨hf, fun y => (by cases y), z, rfl⟩))) h' f j) (fun t z h' f j => q1 (-4) (Or.inr (Or.inr (Or.inr ⟨hf, fun y => (by cases y), t, z, rfl⟩))) h' f j) (fun t z h' f j k => q0 ⟨hf, fun y => (by cases y), t, z⟩ h' f j k)
  | true =>
    refine ⟨fun z => absurd z (by decide), fun _ => ?_⟩
    obtain ⟨st, ln, h4⟩ := hTT 4 (by omega) (by omega)
    refine q_c0 (Nat.le_refl _) (Nat.le_refl _) ?_
    have mv : ∀ h' st ln, q_1 h h' (o + 4) → q_Ta h' (o + 4) (o + 1) st ln → FoJ h' o := by
      intro h' st ln f t
      refine ⟨⟨em, gl, wd, lp, (f o (by omega)).trans hO, hlp⟩, fun i g1 g2 => ?_, og, pl, mn, (f _ (by omega)).trans hM, hog⟩
      by_cases hi : i = 4
      · subst hi; exact ⟨st, ln, t⟩
      · obtain ⟨a, b, c⟩ := hTT i g1 g2
        exact ⟨a, b, (f _ (by omega)).trans c⟩
    refine c_Fo_hasSums hO hW h4 hB hf (fun su h1 st ln f t => ?_) (fun su h1 st ln f t => ?_)
    · simp -implicitDefEqProofs only [s_go, s_nil, s_cons, q_ins, s_op, s_i, s_j, s_a, s_v, s_li, s_lj, s_la, s_liO, s_ljO, s_laO, q_get, q_p1, q_p2, s_n2i, s_n2r, s_n2l, s_n2n, q_pad, q_ar, s_ob, s_obO, q_nth, s_ri, s_riO, s_rb, s_rbO, s_rzO, s_rl, s_rlO, s_rq, s_rqO, s_ry, s_ryO, s_dn, s_tl, s_tn, s_ap, s_an, s_ci, s_cr, s_ni, s_n0, s_n1, q_ags, q_cat, List.contains_nil, List.contains_cons, Nat.reduceBEq, Bool.or_false, Bool.false_or, Bool.true_or, Bool.false_eq_true, ↓reduceIte, Nat.le_refl, Nat.zero_le, true_and, and_true, Nat.reduceLeDiff, Nat.reduceAdd, Nat.add_zero, Nat.zero_add, List.length_cons, List.length_nil, List.set_cons_zero, List.set_cons_succ, Nat.reduceLT, s_fi, s_fl, s_fo, s_fa, s_f0, s_f1, s_set, s_ss, lg_cmp_ge, lg_cmp_le, lg_cmp_gt, lg_cmp_lt, lg_cmp_eq, s_brT, s_brF, s_10, w_Fo_firstWrong, r_Fo_firstWrong, l_Fo_firstWrong_0, l_Fo_firstWrong_9, l_Fo_firstWrong_23, l_Fo_firstWrong_33, l_Fo_firstWrong_57, l_Fo_firstWrong_60, ml_3_71, w_Fo_isFile, kc_m1, ml_3_75, w_Fo_hasSums, kb_m2, ml_3_78, w_Fo_hasTables, kb_m3, ml_3_81, w_Fo_hasCounts, ml_3_84, w_Fo_hasPlaces, f_3_56, ml_3_87, w_Cm_isFound, kb_m4, kc_0]
      have fF : ∀ h', q_fF h1 h' o → q_fF h h' o := fun h' y b b1 b2 => (y b b1 b2).trans (f b (by omega))
      exact z_Fo_firstWrong (mv h1 st ln f t) ((f _ (by omega)).trans hW) (hB.mv (f _ (by omega)) (f _ (by omega))) hf (fun z h' y j => q1 (-3) (Or.inr (Or.inr (Or.inl ⟨hf, fun _ => su, z, rfl⟩))) h' (fF h' y) j) (fun t z h' y j => q1 (-4) (Or.inr (Or.inr (Or.inr ⟨hf, fun _ => su, t, z, rfl⟩))) h' (fF h' y) j) (fun t z h' y j k => q0 ⟨hf, fun _ => su, t, z⟩ h' (fF h' y) j k)
    · simp -implicitDefEqProofs only [s_go, s_nil, s_cons, q_ins, s_op, s_i, s_j, s_a, s_v, s_li, s_lj, s_la, s_liO, s_ljO, s_laO, q_get, q_p1, q_p2, s_n2i, s_n2r, s_n2l, s_n2n, q_pad, q_ar, s_ob, s_obO, q_nth, s_ri, s_riO, s_rb, s_rbO, s_rzO, s_rl, s_rlO, s_rq, s_rqO, s_ry, s_ryO, s_dn, s_tl, s_tn, s_ap, s_an, s_ci, s_cr, s_ni, s_n0, s_n1, q_ags, q_cat, List.contains_nil, List.contains_cons, Nat.reduceBEq, Bool.or_false, Bool.false_or, Bool.true_or, Bool.false_eq_true, ↓reduceIte, Nat.le_refl, Nat.zero_le, true_and, and_true, Nat.reduceLeDiff, Nat.reduceAdd, Nat.add_zero, Nat.zero_add, List.length_cons, List.length_nil, List.set_cons_zero, List.set_cons_succ, Nat.reduceLT, s_fi, s_fl, s_fo, s_fa, s_f0, s_f1, s_set, s_ss, lg_cmp_ge, lg_cmp_le, lg_cmp_gt, lg_cmp_lt, lg_cmp_eq, s_brT, s_brF, s_10, w_Fo_firstWrong, r_Fo_firstWrong, l_Fo_firstWrong_0, l_Fo_firstWrong_9, l_Fo_firstWrong_23, l_Fo_firstWrong_33, l_Fo_firstWrong_57, l_Fo_firstWrong_60, ml_3_71, w_Fo_isFile, kc_m1, ml_3_75, w_Fo_hasSums, kb_m2, ml_3_78, w_Fo_hasTables, kb_m3, ml_3_81, w_Fo_hasCounts, ml_3_84, w_Fo_hasPlaces, f_3_56, ml_3_87, w_Cm_isFound, kb_m4, kc_0]
      exact q1 (-2) (Or.inr (Or.inl ⟨hf, rfl, su, rfl⟩)) h1 (fun b b1 b2 => f b (by omega)) (mv h1 st ln f t)
