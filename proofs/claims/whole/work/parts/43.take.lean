/-! rows that may grow: what it costs; Font.takeFile -/
def GC (m k : Nat) : Nat := if m < k then 1 else 0
def GS (m k : Nat) : Nat := if m < k then RL m k else 0
def GL (m k : Nat) : Nat := if m < k then RL m k else m
/-- what has been paid for a row of this length, all in all -/
def GP (m : Nat) : Nat := if m < 16384 then 2 * m else 49152
theorem GP_ok {m k : Nat} (hk : k ≤ 16384) (hm : m ≤ 16384) : GS m k + GP m ≤ GP (GL m k) ∧ k ≤ GL m k ∧ GL m k ≤ 16384 ∧ m ≤ GL m k := by
  unfold GS GP GL
  by_cases c : m < k
  · obtain ⟨r1, r2, r3⟩ := RL_b c hk
    rw [if_pos c, if_pos c]
    refine ⟨?_, r2, r3, by omega⟩
    rw [if_pos (show m < 16384 by omega)]
    by_cases c2 : RL m k < 16384
    · rw [if_pos c2]
      have : 2 * m ≤ RL m k := by
        have hx : ∀ x : Nat, x = (if k < 2 * m then 2 * m else k) → (if x < 16384 then x else 16384) < 16384 → 2 * m ≤ (if x < 16384 then x else 16384) := by
          intro x hx h1
          by_cases c3 : x < 16384
          · rw [if_pos c3]
            by_cases c4 : k < 2 * m
            · rw [if_pos c4] at hx; omega
            · rw [if_neg c4] at hx; omega
          · rw [if_neg c3] at h1; omega
        exact hx _ rfl c2
      omega
    · rw [if_neg c2]
      omega
  · rw [if_neg c, if_neg c]
    omega
theorem GC_1 {m k : Nat} (h : m < k) : GC m k = 1 ∧ GS m k = RL m k ∧ GL m k = RL m k := ⟨if_pos h, if_pos h, if_pos h⟩
theorem GC_0 {m k : Nat} (h : ¬ m < k) : GC m k = 0 ∧ GS m k = 0 ∧ GL m k = m := ⟨if_neg h, if_neg h, if_neg h⟩
theorem c_By_room {G : q_G} {l : Launch} {d f row m n sz k : Nat} {g : Nat → Int32} {F : Nat → Nat} {h : q_H} {Q : q_P} (hB : q_By h f row m g sz F) (hk : k ≤ 16384) (hr : row < n) (hf : f < n) (q1 : ∀ h' g' row', (row' = row ∨ n ≤ row') → row' < n + GC m k → (∀ b, b < n → b ≠ f → b ≠ row → h' b = h b) → q_By h' f row' (GL m k) g' sz F → Q none h' (n + GC m k)) : q_Call G l M_By_makeRoom (d + 2) (GC m k) (GS m k) [.ref f, .int (nI k)] h n Q := by
  by_cases c : m < k
  · obtain ⟨e1, e2, e3⟩ := GC_1 c
    rw [e1, e3] at q1
    rw [e1, e2]
    exact c_By_room1 hB c hk hr hf (fun h' g' t B' => q1 h' g' n (Or.inr (Nat.le_refl _)) (by omega) (fun b b1 b2 b3 => t b b2 (by omega)) B')
  · obtain ⟨e1, e2, e3⟩ := GC_0 c
    rw [e1, e3] at q1
    rw [e1, e2]
    exact c_By_room0 hB (by omega) (q1 h g row (Or.inl rfl) (by omega) (fun b _ _ _ => rfl) hB)
theorem c_By_copy {G : q_G} {l : Launch} {d f row m n sz f2 row2 m2 s2 : Nat} {g g2 : Nat → Int32} {F F2 : Nat → Nat} {h : q_H} {Q : q_P} (hB : q_By h f row m g sz F) (hD : q_By h f2 row2 m2 g2 s2 F2) (hne : f ≠ f2) (hner : row ≠ row2) (hr : row < n) (hf : f < n) (hf2 : f2 < n) (hr2 : row2 < n) (q1 : ∀ h' g' row', (row' = row ∨ n ≤ row') → row' < n + GC m s2 → (∀ b, b < n → b ≠ f → b ≠ row → h' b = h b) → q_By h' f row' (GL m s2) g' s2 F2 → Q none h' (n + GC m s2)) : q_Call G l M_By_copy (d + 3) (GC m s2) (GS m s2) [.ref f, .ref f2] h n Q := by
  by_cases c : m < s2
  · obtain ⟨e1, e2, e3⟩ := GC_1 c
    rw [e1, e3] at q1
    rw [e1, e2]
    exact c_By_copy1 hB hD hne c hr hf hf2 hr2 (fun h' g' t B' => q1 h' g' n (Or.inr (Nat.le_refl _)) (by omega) (fun b b1 b2 b3 => t b b2 (by omega)) B')
  · obtain ⟨e1, e2, e3⟩ := GC_0 c
    rw [e1, e3] at q1
    rw [e1, e2]
    exact c_By_copy0 (d := d + 1) hB hD hne hner (by omega) (fun h' g' t B' => q1 h' g' row (Or.inl rfl) (by omega) (fun b b1 b2 b3 => t b b2 b3) B')
set_option maxRecDepth 100000 in
set_option maxHeartbeats 4000000 in
theorem c_Fo_takeFile {G : q_G} {l : Launch} {d o row m n sz f2 row2 m2 s2 st ln : Nat} {em gl wd lp : Int32} {g g2 : Nat → Int32} {F F2 : Nat → Nat} {h : q_H} {Q : q_P} (hO : h o = some (e_Fo o em gl wd lp)) (hW : q_Ta h (o + 3) (o + 1) st ln) (hB : q_By h (o + 1) row m g sz F) (hD : q_By h f2 row2 m2 g2 s2 F2) (hne : o + 1 ≠ f2) (hner : row ≠ row2) (hr : row < n) (hf : o + 3 < n) (hf2 : f2 < n) (hr2 : row2 < n)
    (q1 : ∀ h' g' row', (row' = row ∨ n ≤ row') → row' < n + GC m s2 → (∀ b, b < n → b ≠ o + 1 → b ≠ o + 3 → b ≠ row → h' b = h b) → q_Ta h' (o + 3) (o + 1) 0 s2 → q_By h' (o + 1) row' (GL m s2) g' s2 F2 → Q none h' (n + GC m s2)) : q_Call G l M_Fo_takeFile (d + 4) (GC m s2) (GS m s2) [.ref o, .ref f2] h n Q := by
  have hO' := hO
  unfold e_Fo at hO'
  have h1 := hB.1
  have h2 := hD.1
  have hW' := hW
  unfold q_Ta at hW'
  have r1 : row ≠ o := hB.ne hO'
  have r2 : row ≠ o + 3 := hB.ne hW'
  refine q_in u_Fo_takeFile (by rw [L_Fo_takeFile]; exact Nat.le_of_ble_eq_true rfl) ?_
  rw [L_Fo_takeFile]
  refine q_at o_Fo_takeFile [] 20 l_Fo_takeFile_0 ?_
  simp -implicitDefEqProofs only [s_go, s_nil, s_cons, q_ins, s_op, s_i, s_j, s_a, s_v, s_li, s_lj, s_la, s_liO, s_ljO, s_laO, q_get, q_p1, q_p2, s_n2i, s_n2r, s_n2l, s_n2n, q_pad, q_ar, s_ob, s_obO, q_nth, s_ri, s_riO, s_rb, s_rbO, s_rzO, s_rl, s_rlO, s_rq, s_rqO, s_ry, s_ryO, s_dn, s_tl, s_tn, s_ap, s_an, s_ci, s_cr, s_ni, s_n0, s_n1, q_ags, q_cat, List.contains_nil, List.contains_cons, Nat.reduceBEq, Bool.or_false, Bool.false_or, Bool.true_or, Bool.false_eq_true, ↓reduceIte, Nat.le_refl, Nat.zero_le, true_and, and_true, Nat.reduceLeDiff, Nat.reduceAdd, Nat.add_zero, Nat.zero_add, List.length_cons, List.length_nil, List.set_cons_zero, List.set_cons_succ, Nat.reduceLT, s_fi, s_fl, s_fo, s_fa, s_f0, s_f1, s_set, s_ss, lg_cmp_ge, lg_cmp_le, lg_cmp_gt, lg_cmp_lt, lg_cmp_eq, s_brT, s_brF, s_10, w_Fo_takeFile, r_Fo_takeFile, l_Fo_takeFile_0, f_3_12, ml_3_60, w_By_copy, f_3_23, kc_0, f_3_63, ml_3_67, w_Ta_lay, hO', h1, h2]
  refine q_c1 (GC m s2) (GS m s2) (by omega) (by omega) ?_
  refine c_By_copy hB hD hne hner hr (by omega) hf2 hr2 (fun h' g' row' a1 a2 t B' => ?_)
  have hO1 := (t o (by omega) (by omega) r1.symm).trans hO'
  have hW1 := (t (o + 3) (by omega) (by omega) r2.symm).trans hW'
  have h1' := B'.1
  simp -implicitDefEqProofs only [s_go, s_nil, s_cons, q_ins, s_op, s_i, s_j, s_a, s_v, s_li, s_lj, s_la, s_liO, s_ljO, s_laO, q_get, q_p1, q_p2, s_n2i, s_n2r, s_n2l, s_n2n, q_pad, q_ar, s_ob, s_obO, q_nth, s_ri, s_riO, s_rb, s_rbO, s_rzO, s_rl, s_rlO, s_rq, s_rqO, s_ry, s_ryO, s_dn, s_tl, s_tn, s_ap, s_an, s_ci, s_cr, s_ni, s_n0, s_n1, q_ags, q_cat, List.contains_nil, List.contains_cons, Nat.reduceBEq, Bool.or_false, Bool.false_or, Bool.true_or, Bool.false_eq_true, ↓reduceIte, Nat.le_refl, Nat.zero_le, true_and, and_true, Nat.reduceLeDiff, Nat.reduceAdd, Nat.add_zero, Nat.zero_add, List.length_cons, List.length_nil, List.set_cons_zero, List.set_cons_succ, Nat.reduceLT, s_fi, s_fl, s_fo, s_fa, s_f0, s_f1, s_set, s_ss, lg_cmp_ge, lg_cmp_le, lg_cmp_gt, lg_cmp_lt, lg_cmp_eq, s_brT, s_brF, s_10, w_Fo_takeFile, r_Fo_takeFile, l_Fo_takeFile_0, f_3_12, ml_3_60, w_By_copy, f_3_23, kc_0, f_3_63, ml_3_67, w_Ta_lay, hO1, h1', hW1]
  refine q_c0 (Nat.le_refl _) (Nat.le_refl _) ?_
  refine c_Ta_lay (st' := 0) hW1 ?_
  simp -implicitDefEqProofs only [s_go, s_nil, s_cons, q_ins, s_op, s_i, s_j, s_a, s_v, s_li, s_lj, s_la, s_liO, s_ljO, s_laO, q_get, q_p1, q_p2, s_n2i, s_n2r, s_n2l, s_n2n, q_pad, q_ar, s_ob, s_obO, q_nth, s_ri, s_riO, s_rb, s_rbO, s_rzO, s_rl, s_rlO, s_rq, s_rqO, s_ry, s_ryO, s_dn, s_tl, s_tn, s_ap, s_an, s_ci, s_cr, s_ni, s_n0, s_n1, q_ags, q_cat, List.contains_nil, List.contains_cons, Nat.reduceBEq, Bool.or_false, Bool.false_or, Bool.true_or, Bool.false_eq_true, ↓reduceIte, Nat.le_refl, Nat.zero_le, true_and, and_true, Nat.reduceLeDiff, Nat.reduceAdd, Nat.add_zero, Nat.zero_add, List.length_cons, List.length_nil, List.set_cons_zero, List.set_cons_succ, Nat.reduceLT, s_fi, s_fl, s_fo, s_fa, s_f0, s_f1, s_set, s_ss, lg_cmp_ge, lg_cmp_le, lg_cmp_gt, lg_cmp_lt, lg_cmp_eq, s_brT, s_brF, s_10, w_Fo_takeFile, r_Fo_takeFile, l_Fo_takeFile_0, f_3_12, ml_3_60, w_By_copy, f_3_23, kc_0, f_3_63, ml_3_67, w_Ta_lay]
  have r3 : row' ≠ o + 3 := B'.ne hW1
  exact q1 _ g' row' a1 a2 (fun b b1 b2 b3 b4 => by rw [s_ne _ _ b3]; exact t b b1 b2 b4) (s_set _ _ _) (B'.mv (s_ne _ _ (by omega)) (s_ne _ _ r3))
