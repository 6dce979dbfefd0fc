/-! switches; the reference: bound -/
theorem sl_in {pc : Nat} {x : Int32} {f : Nat → Prop} {t : Nat} {off : Int} (ht : (pc : Int) + off = t) (hf : f t) : ∀ (L : List Int) (j : Int) (i : Nat), x.toInt = j + i → L[i]? = some off → q_sl pc x f j L
  | [], j, i, _, h => by simp at h
  | o :: r, j, 0, hx, h => by
    simp at h
    subst h
    refine ⟨fun _ => ⟨by omega, ?_⟩, ?_⟩
    · rw [ht]; exact hf
    · have : ∀ (M : List Int) (j' : Int), x.toInt < j' → q_sl pc x f j' M := by
        intro M
        induction M with
        | nil => intro j' _; exact trivial
        | cons a b ih => intro j' hj; exact ⟨fun z => by omega, ih (j' + 1) (by omega)⟩
      exact this r (j + 1) (by omega)
  | o :: r, j, i + 1, hx, h => by
    refine ⟨fun z => by omega, sl_in ht hf r (j + 1) i (by omega) (by simpa using h)⟩
theorem sw_in {pc : Nat} {x : Int32} {f : Nat → Prop} {df lo hi : Int} {offs : Array Int} (i t : Nat) (off : Int) (hx : x.toInt = lo + i) (ho : offs.toList[i]? = some off) (hz : (offs.size : Int) = hi - lo + 1) (ht : (pc : Int) + off = t) (hf : f t) : (x.toInt < lo ∨ hi < x.toInt → q_jp pc df f) ∧ q_sl pc x f lo offs.toList ∧ (offs.size : Int) = hi - lo + 1 := by
  refine ⟨fun z => ?_, sl_in ht hf _ lo i hx ho, hz⟩
  have : i < offs.toList.length := by
    rcases Nat.lt_or_ge i offs.toList.length with q | q
    · exact q
    · rw [List.getElem?_eq_none q] at ho; cases ho
  rw [Array.length_toList] at this
  omega
theorem sw_out {pc : Nat} {x : Int32} {f : Nat → Prop} {df lo hi : Int} {offs : Array Int} (t : Nat) (hx : hi < x.toInt) (hz : (offs.size : Int) = hi - lo + 1) (ht : (pc : Int) + df = t) (hf : f t) : (x.toInt < lo ∨ hi < x.toInt → q_jp pc df f) ∧ q_sl pc x f lo offs.toList ∧ (offs.size : Int) = hi - lo + 1 := by
  refine ⟨fun _ => ⟨by omega, by rw [ht]; exact hf⟩, ?_, hz⟩
  have : ∀ (M : List Int) (j : Int), j + M.length ≤ x.toInt → q_sl pc x f j M := by
    intro M
    induction M with
    | nil => intro j _; exact trivial
    | cons a b ih =>
      intro j hj
      rw [List.length_cons] at hj
      exact ⟨fun z => by omega, ih (j + 1) (by omega)⟩
  refine this _ lo ?_
  rw [Array.length_toList]
  omega
def BD (ls : Bool) (f : Nat → Int) (k : Nat) : Int := if ls = true then LST f k else GRT f k
def PX (ix : Bool) (L : List Pt) (j : Nat) : Int := if ix = true then (At L j).1 else (At L j).2.1
theorem LST_s (f : Nat → Int) (k : Nat) : LST f (k + 1) = if k = 0 then f k else if f k < LST f k then f k else LST f k := by
  unfold LST
  rw [if_neg (by omega), Nat.add_sub_cancel]
  cases k with
  | zero => rfl
  | succ k =>
    rw [if_neg (show ¬ k + 1 = 0 by omega), if_neg (show ¬ k + 1 = 0 by omega), Nat.add_sub_cancel]
    rfl
theorem GRT_s (f : Nat → Int) (k : Nat) : GRT f (k + 1) = if k = 0 then f k else if GRT f k < f k then f k else GRT f k := by
  unfold GRT
  rw [if_neg (by omega), Nat.add_sub_cancel]
  cases k with
  | zero => rfl
  | succ k =>
    rw [if_neg (show ¬ k + 1 = 0 by omega), if_neg (show ¬ k + 1 = 0 by omega), Nat.add_sub_cancel]
    rfl
theorem BD_co {ls : Bool} {f : Nat → Int} {k : Nat} (h : ∀ j, j < k → q_co (f j)) : q_co (BD ls f k) := by
  have z : q_co 0 := ⟨by omega, by omega⟩
  unfold BD LST GRT
  split
  · split
    · exact z
    · exact MN_co _ (fun j hj => h j (by omega))
  · split
    · exact z
    · exact MX_co _ (fun j hj => h j (by omega))
set_option maxRecDepth 100000 in
set_option maxHeartbeats 4000000 in
theorem z_Mo_bound {G : q_G} {l : Launch} {d y n rg : Nat} {fa si fo wi of_ bd pr le : Int32} {ix ls : Bool} {L : List Pt} {h : q_H} {Q : q_P} (E : MoE h y) (P : PTS h y 0 L rg) (hL : L.length ≤ 512) (hco : ∀ p ∈ L, q_co p.1 ∧ q_co p.2.1 ∧ p.2.2.1 < 256) (hq : Q (some (.int (iI (BD ls (PX ix L) L.length)))) (Mh h y fa si fo wi of_ bd pr le) n) :
    ∀ (r k : Nat), k + r = L.length → q_Z G l M_Mo_bound d 0 0 Q 5 [some (.ref y), some (.int (bI ix)), some (.int (bI ls)), some (.int (iI (BD ls (PX ix L) k))), some (.int (nI k)), none] [] (Mh h y fa si fo wi of_ bd pr le) n 0 0 := by
  obtain ⟨g6, e6⟩ := E 6 (by omega) (by omega)
  obtain ⟨g7, e7⟩ := E 7 (by omega) (by omega)
  obtain ⟨g11, e11⟩ := E 11 (by omega) (by omega)
  have e6 : h (y + 6) = some (.inl (0, 3072, .inl g6)) := e6
  have e7 : h (y + 7) = some (.inl (0, 3072, .inl g7)) := e7
  have e11 : h (y + 11) = some (.inl (0, 6, .inl g11)) := e11
  have v11 : g11 0 = nI L.length := (ar_e e11).symm.trans P.1
  have pc : ∀ j, j < L.length → q_co (PX ix L j) := by
    intro j hj
    have := hco _ (At_mem hj)
    unfold PX
    split
    · exact this.1
    · exact this.2.1
  intro r
  induction r with
  | zero =>
    intro k hk
    have e : k = L.length := by omega
    subst e
    refine q_at o_Mo_bound [5, 37] 20 l_Mo_bound_5 ?_
    simp -implicitDefEqProofs only [s_go, s_nil, s_cons, q_ins, s_op, s_i, s_j, s_a, s_v, s_li, s_lj, s_la, s_liO, s_ljO, s_laO, q_get, q_p1, q_p2, s_n2i, s_n2r, s_n2l, s_n2n, q_pad, q_ar, s_ob, s_obO, q_nth, s_ri, s_riO, s_rb, s_rbO, s_rzO, s_rl, s_rlO, s_rq, s_rqO, s_ry, s_ryO, s_dn, s_tl, s_tn, s_ap, s_an, s_ci, s_cr, s_ni, s_n0, s_n1, q_ags, q_cat, List.contains_nil, List.contains_cons, Nat.reduceBEq, Bool.or_false, Bool.false_or, Bool.true_or, Bool.false_eq_true, ↓reduceIte, Nat.le_refl, Nat.zero_le, true_and, and_true, Nat.reduceLeDiff, Nat.reduceAdd, Nat.add_zero, Nat.zero_add, List.length_cons, List.length_nil, List.set_cons_zero, List.set_cons_succ, Nat.reduceLT, s_fi, s_fl, s_fo, s_fa, s_f0, s_f1, s_set, s_ss, lg_cmp_ge, lg_cmp_le, lg_cmp_gt, lg_cmp_lt, lg_cmp_eq, s_brT, s_brF, s_10, w_Mo_bound, r_Mo_bound, l_Mo_bound_0, l_Mo_bound_5, l_Mo_bound_30, l_Mo_bound_37, l_Mo_bound_57, l_Mo_bound_63, l_Mo_bound_68, l_Mo_bound_69, l_Mo_bound_76, kc_0, f_8_41, f_8_25, f_8_28, kc_1, Mh_y, Mh_1, Mh_s1, Mh_2, Mh_s2, Mh_3, Mh_s3, Mh_4, Mh_s4, Mh_5, Mh_s5, Mh_6, Mh_s6, Mh_7, Mh_s7, Mh_8, Mh_s8, Mh_9, Mh_s9, Mh_10, Mh_s10, Mh_11, Mh_s11, Mh_12, Mh_s12, Mh_13, Mh_s13, Mh_14, Mh_s14, Mh_15, Mh_s15, Mh_16, Mh_s16, Mh_17, Mh_s17, Mh_18, Mh_s18, Mh_19, Mh_s19, Mh_20, Mh_s20, Mh_21, Mh_s21, Mh_22, Mh_s22, Mh_23, Mh_s23, Mh_24, Mh_s24, Mh_p, e11, show Int32.toNatClampNeg 0 = 0 from rfl, v11, show (nI L.length ≤ nI L.length) = True from eq_true (nI_le (by omega) (by omega))]
    exact ⟨vp_in_nI (n := 0) (by omega) (by omega), hq⟩
  | succ r ih =>
    intro k hk
    have c1 := pc k (by omega)
    have c2 : q_co (BD ls (PX ix L) k) := BD_co (fun j hj => pc j (by omega))
    have b1 : (-2147483648 ≤ PX ix L k ∧ PX ix L k < 2147483648) := ⟨by have := c1.1; omega, by have := c1.2; omega⟩
    have b2 : (-2147483648 ≤ BD ls (PX ix L) k ∧ BD ls (PX ix L) k < 2147483648) := ⟨by have := c2.1; omega, by have := c2.2; omega⟩
    have st : ∀ z : Int, z = BD ls (PX ix L) (k + 1) → ∀ x5, q_Z G l M_Mo_bound d 0 0 Q 5 [some (.ref y), some (.int (bI ix)), some (.int (bI ls)), some (.int (iI z)), some (.int (nI (k + 1))), x5] [] (Mh h y fa si fo wi of_ bd pr le) n 0 0 := by
      intro z hz x5
      subst hz
      exact q_wk (ih (k + 1) (by omega)) ⟨rfl, rfl, rfl, rfl, rfl, trivial⟩
    have J : q_Z G l M_Mo_bound d 0 0 Q 37 [some (.ref y), some (.int (bI ix)), some (.int (bI ls)), some (.int (iI (BD ls (PX ix L) k))), some (.int (nI k)), none] [.int (iI (PX ix L k))] (Mh h y fa si fo wi of_ bd pr le) n 0 0 := by
      cases ls
      · have bs : BD false (PX ix L) (k + 1) = if k = 0 then PX ix L k else if BD false (PX ix L) k < PX ix L k then PX ix L k else BD false (PX ix L) k := GRT_s _ _
        refine q_at o_Mo_bound [5] 20 l_Mo_bound_37 ?_
        simp -implicitDefEqProofs only [s_go, s_nil, s_cons, q_ins, s_op, s_i, s_j, s_a, s_v, s_li, s_lj, s_la, s_liO, s_ljO, s_laO, q_get, q_p1, q_p2, s_n2i, s_n2r, s_n2l, s_n2n, q_pad, q_ar, s_ob, s_obO, q_nth, s_ri, s_riO, s_rb, s_rbO, s_rzO, s_rl, s_rlO, s_rq, s_rqO, s_ry, s_ryO, s_dn, s_tl, s_tn, s_ap, s_an, s_ci, s_cr, s_ni, s_n0, s_n1, q_ags, q_cat, List.contains_nil, List.contains_cons, Nat.reduceBEq, Bool.or_false, Bool.false_or, Bool.true_or, Bool.false_eq_true, ↓reduceIte, Nat.le_refl, Nat.zero_le, true_and, and_true, Nat.reduceLeDiff, Nat.reduceAdd, Nat.add_zero, Nat.zero_add, List.length_cons, List.length_nil, List.set_cons_zero, List.set_cons_succ, Nat.reduceLT, s_fi, s_fl, s_fo, s_fa, s_f0, s_f1, s_set, s_ss, lg_cmp_ge, lg_cmp_le, lg_cmp_gt, lg_cmp_lt, lg_cmp_eq, s_brT, s_brF, s_10, w_Mo_bound, r_Mo_bound, l_Mo_bound_0, l_Mo_bound_5, l_Mo_bound_30, l_Mo_bound_37, l_Mo_bound_57, l_Mo_bound_63, l_Mo_bound_68, l_Mo_bound_69, l_Mo_bound_76, kc_0, f_8_41, f_8_25, f_8_28, kc_1, Mh_y, Mh_1, Mh_s1, Mh_2, Mh_s2, Mh_3, Mh_s3, Mh_4, Mh_s4, Mh_5, Mh_s5, Mh_6, Mh_s6, Mh_7, Mh_s7, Mh_8, Mh_s8, Mh_9, Mh_s9, Mh_10, Mh_s10, Mh_11, Mh_s11, Mh_12, Mh_s12, Mh_13, Mh_s13, Mh_14, Mh_s14, Mh_15, Mh_s15, Mh_16, Mh_s16, Mh_17, Mh_s17, Mh_18, Mh_s18, Mh_19, Mh_s19, Mh_20, Mh_s20, Mh_21, Mh_s21, Mh_22, Mh_s22, Mh_23, Mh_s23, Mh_24, Mh_s24, Mh_p, bI_0, eq_self, nI_1]
        refine ⟨fun z => st _ ?_ _, fun z => ⟨fun z2 => st _ ?_ _, fun z2 => st _ ?_ _⟩⟩
        · rw [bs, if_pos ((nI_inj (b := 0) (by omega) (by omega)).mp z)]
        · rw [iI_le b1 b2] at z2
          rw [bs, if_neg (fun q => z (by rw [q]; rfl)), if_neg (by omega)]
        · rw [iI_le b1 b2] at z2
          rw [bs, if_neg (fun q => z (by rw [q]; rfl)), if_pos (by omega)]
      · have bs : BD true (PX ix L) (k + 1) = if k = 0 then PX ix L k else if PX ix L k < BD true (PX ix L) k then PX ix L k else BD true (PX ix L) k := LST_s _ _
        refine q_at o_Mo_bound [5] 20 l_Mo_bound_37 ?_
        simp -implicitDefEqProofs only [s_go, s_nil, s_cons, q_ins, s_op, s_i, s_j, s_a, s_v, s_li, s_lj, s_la, s_liO, s_ljO, s_laO, q_get, q_p1, q_p2, s_n2i, s_n2r, s_n2l, s_n2n, q_pad, q_ar, s_ob, s_obO, q_nth, s_ri, s_riO, s_rb, s_rbO, s_rzO, s_rl, s_rlO, s_rq, s_rqO, s_ry, s_ryO, s_dn, s_tl, s_tn, s_ap, s_an, s_ci, s_cr, s_ni, s_n0, s_n1, q_ags, q_cat, List.contains_nil, List.contains_cons, Nat.reduceBEq, Bool.or_false, Bool.false_or, Bool.true_or, Bool.false_eq_true, ↓reduceIte, Nat.le_refl, Nat.zero_le, true_and, and_true, Nat.reduceLeDiff, Nat.reduceAdd, Nat.add_zero, Nat.zero_add, List.length_cons, List.length_nil, List.set_cons_zero, List.set_cons_succ, Nat.reduceLT, s_fi, s_fl, s_fo, s_fa, s_f0, s_f1, s_set, s_ss, lg_cmp_ge, lg_cmp_le, lg_cmp_gt, lg_cmp_lt, lg_cmp_eq, s_brT, s_brF, s_10, w_Mo_bound, r_Mo_bound, l_Mo_bound_0, l_Mo_bound_5, l_Mo_bound_30, l_Mo_bound_37, l_Mo_bound_57, l_Mo_bound_63, l_Mo_bound_68, l_Mo_bound_69, l_Mo_bound_76, kc_0, f_8_41, f_8_25, f_8_28, kc_1, Mh_y, Mh_1, Mh_s1, Mh_2, Mh_s2, Mh_3, Mh_s3, Mh_4, Mh_s4, Mh_5, Mh_s5, Mh_6, Mh_s6, Mh_7, Mh_s7, Mh_8, Mh_s8, Mh_9, Mh_s9, Mh_10, Mh_s10, Mh_11, Mh_s11, Mh_12, Mh_s12, Mh_13, Mh_s13, Mh_14, Mh_s14, Mh_15, Mh_s15, Mh_16, Mh_s16, Mh_17, Mh_s17, Mh_18, Mh_s18, Mh_19, Mh_s19, Mh_20, Mh_s20, Mh_21, Mh_s21, Mh_22, Mh_s22, Mh_23, Mh_s23, Mh_24, Mh_s24, Mh_p, bI_0, reduceCtorEq, nI_1]
        refine ⟨fun z => st _ ?_ _, fun z => ⟨fun z2 => st _ ?_ _, fun z2 => st _ ?_ _⟩⟩
        · rw [bs, if_pos ((nI_inj (b := 0) (by omega) (by omega)).mp z)]
        · rw [iI_le b2 b1] at z2
          rw [bs, if_neg (fun q => z (by rw [q]; rfl)), if_neg (by omega)]
        · rw [iI_le b2 b1] at z2
          rw [bs, if_neg (fun q => z (by rw [q]; rfl)), if_pos (by omega)]
    have p := P.2.2 k (by omega)
    rw [Nat.mul_zero, Nat.zero_add] at p
    cases ix
    · have v7 : g7 k = iI (PX false L k) := (ar_e e7).symm.trans p.2.1
      refine q_at o_Mo_bound [37] 20 l_Mo_bound_5 ?_
      simp -implicitDefEqProofs only [s_go, s_nil, s_cons, q_ins, s_op, s_i, s_j, s_a, s_v, s_li, s_lj, s_la, s_liO, s_ljO, s_laO, q_get, q_p1, q_p2, s_n2i, s_n2r, s_n2l, s_n2n, q_pad, q_ar, s_ob, s_obO, q_nth, s_ri, s_riO, s_rb, s_rbO, s_rzO, s_rl, s_rlO, s_rq, s_rqO, s_ry, s_ryO, s_dn, s_tl, s_tn, s_ap, s_an, s_ci, s_cr, s_ni, s_n0, s_n1, q_ags, q_cat, List.contains_nil, List.contains_cons, Nat.reduceBEq, Bool.or_false, Bool.false_or, Bool.true_or, Bool.false_eq_true, ↓reduceIte, Nat.le_refl, Nat.zero_le, true_and, and_true, Nat.reduceLeDiff, Nat.reduceAdd, Nat.add_zero, Nat.zero_add, List.length_cons, List.length_nil, List.set_cons_zero, List.set_cons_succ, Nat.reduceLT, s_fi, s_fl, s_fo, s_fa, s_f0, s_f1, s_set, s_ss, lg_cmp_ge, lg_cmp_le, lg_cmp_gt, lg_cmp_lt, lg_cmp_eq, s_brT, s_brF, s_10, w_Mo_bound, r_Mo_bound, l_Mo_bound_0, l_Mo_bound_5, l_Mo_bound_30, l_Mo_bound_37, l_Mo_bound_57, l_Mo_bound_63, l_Mo_bound_68, l_Mo_bound_69, l_Mo_bound_76, kc_0, f_8_41, f_8_25, f_8_28, kc_1, Mh_y, Mh_1, Mh_s1, Mh_2, Mh_s2, Mh_3, Mh_s3, Mh_4, Mh_s4, Mh_5, Mh_s5, Mh_6, Mh_s6, Mh_7, Mh_s7, Mh_8, Mh_s8, Mh_9, Mh_s9, Mh_10, Mh_s10, Mh_11, Mh_s11, Mh_12, Mh_s12, Mh_13, Mh_s13, Mh_14, Mh_s14, Mh_15, Mh_s15, Mh_16, Mh_s16, Mh_17, Mh_s17, Mh_18, Mh_s18, Mh_19, Mh_s19, Mh_20, Mh_s20, Mh_21, Mh_s21, Mh_22, Mh_s22, Mh_23, Mh_s23, Mh_24, Mh_s24, Mh_p, e11, show Int32.toNatClampNeg 0 = 0 from rfl, v11, show (nI L.length ≤ nI k) = False from eq_false (fun c => absurd ((nI_leI (by omega) (by omega)).mp c) (by omega)), bI_0, eq_self, e7, nI_clamp (show k < 2 ^ 31 by omega), v7]
      exact ⟨vp_in_nI (n := 0) (by omega) (by omega), vp_in_nI (by omega) (by omega), J⟩
    · have v6 : g6 k = iI (PX true L k) := (ar_e e6).symm.trans p.1
      refine q_at o_Mo_bound [37] 20 l_Mo_bound_5 ?_
      simp -implicitDefEqProofs only [s_go, s_nil, s_cons, q_ins, s_op, s_i, s_j, s_a, s_v, s_li, s_lj, s_la, s_liO, s_ljO, s_laO, q_get, q_p1, q_p2, s_n2i, s_n2r, s_n2l, s_n2n, q_pad, q_ar, s_ob, s_obO, q_nth, s_ri, s_riO, s_rb, s_rbO, s_rzO, s_rl, s_rlO, s_rq, s_rqO, s_ry, s_ryO, s_dn, s_tl, s_tn, s_ap, s_an, s_ci, s_cr, s_ni, s_n0, s_n1, q_ags, q_cat, List.contains_nil, List.contains_cons, Nat.reduceBEq, Bool.or_false, Bool.false_or, Bool.true_or, Bool.false_eq_true, ↓reduceIte, Nat.le_refl, Nat.zero_le, true_and, and_true, Nat.reduceLeDiff, Nat.reduceAdd, Nat.add_zero, Nat.zero_add, List.length_cons, List.length_nil, List.set_cons_zero, List.set_cons_succ, Nat.reduceLT, s_fi, s_fl, s_fo, s_fa, s_f0, s_f1, s_set, s_ss, lg_cmp_ge, lg_cmp_le, lg_cmp_gt, lg_cmp_lt, lg_cmp_eq, s_brT, s_brF, s_10, w_Mo_bound, r_Mo_bound, l_Mo_bound_0, l_Mo_bound_5, l_Mo_bound_30, l_Mo_bound_37, l_Mo_bound_57, l_Mo_bound_63, l_Mo_bound_68, l_Mo_bound_69, l_Mo_bound_76, kc_0, f_8_41, f_8_25, f_8_28, kc_1, Mh_y, Mh_1, Mh_s1, Mh_2, Mh_s2, Mh_3, Mh_s3, Mh_4, Mh_s4, Mh_5, Mh_s5, Mh_6, Mh_s6, Mh_7, Mh_s7, Mh_8, Mh_s8, Mh_9, Mh_s9, Mh_10, Mh_s10, Mh_11, Mh_s11, Mh_12, Mh_s12, Mh_13, Mh_s13, Mh_14, Mh_s14, Mh_15, Mh_s15, Mh_16, Mh_s16, Mh_17, Mh_s17, Mh_18, Mh_s18, Mh_19, Mh_s19, Mh_20, Mh_s20, Mh_21, Mh_s21, Mh_22, Mh_s22, Mh_23, Mh_s23, Mh_24, Mh_s24, Mh_p, e11, show Int32.toNatClampNeg 0 = 0 from rfl, v11, show (nI L.length ≤ nI k) = False from eq_false (fun c => absurd ((nI_leI (by omega) (by omega)).mp c) (by omega)), bI_0, reduceCtorEq, e6, nI_clamp (show k < 2 ^ 31 by omega), v6]
      exact ⟨vp_in_nI (n := 0) (by omega) (by omega), vp_in_nI (by omega) (by omega), J⟩
set_option maxRecDepth 100000 in
set_option maxHeartbeats 4000000 in
theorem c_Mo_bound {G : q_G} {l : Launch} {d y n rg : Nat} {fa si fo wi of_ bd pr le v1 v2 : Int32} {ix ls : Bool} {L : List Pt} {h : q_H} {Q : q_P} (h1 : v1 = bI ix) (h2 : v2 = bI ls) (E : MoE h y) (P : PTS h y 0 L rg) (hL : L.length ≤ 512) (hco : ∀ p ∈ L, q_co p.1 ∧ q_co p.2.1 ∧ p.2.2.1 < 256) (hq : Q (some (.int (iI (BD ls (PX ix L) L.length)))) (Mh h y fa si fo wi of_ bd pr le) n) : q_Call G l M_Mo_bound d 0 0 [.ref y, .int v1, .int v2] (Mh h y fa si fo wi of_ bd pr le) n Q := by
  subst h1
  subst h2
  refine q_in u_Mo_bound (by rw [L_Mo_bound]; exact Nat.le_of_ble_eq_true rfl) ?_
  rw [L_Mo_bound]
  refine q_at o_Mo_bound [5] 20 l_Mo_bound_0 ?_
  simp -implicitDefEqProofs only [s_go, s_nil, s_cons, q_ins, s_op, s_i, s_j, s_a, s_v, s_li, s_lj, s_la, s_liO, s_ljO, s_laO, q_get, q_p1, q_p2, s_n2i, s_n2r, s_n2l, s_n2n, q_pad, q_ar, s_ob, s_obO, q_nth, s_ri, s_riO, s_rb, s_rbO, s_rzO, s_rl, s_rlO, s_rq, s_rqO, s_ry, s_ryO, s_dn, s_tl, s_tn, s_ap, s_an, s_ci, s_cr, s_ni, s_n0, s_n1, q_ags, q_cat, List.contains_nil, List.contains_cons, Nat.reduceBEq, Bool.or_false, Bool.false_or, Bool.true_or, Bool.false_eq_true, ↓reduceIte, Nat.le_refl, Nat.zero_le, true_and, and_true, Nat.reduceLeDiff, Nat.reduceAdd, Nat.add_zero, Nat.zero_add, List.length_cons, List.length_nil, List.set_cons_zero, List.set_cons_succ, Nat.reduceLT, s_fi, s_fl, s_fo, s_fa, s_f0, s_f1, s_set, s_ss, lg_cmp_ge, lg_cmp_le, lg_cmp_gt, lg_cmp_lt, lg_cmp_eq, s_brT, s_brF, s_10, w_Mo_bound, r_Mo_bound, l_Mo_bound_0, l_Mo_bound_5, l_Mo_bound_30, l_Mo_bound_37, l_Mo_bound_57, l_Mo_bound_63, l_Mo_bound_68, l_Mo_bound_69, l_Mo_bound_76, kc_0, f_8_41, f_8_25, f_8_28, kc_1, Mh_y, Mh_1, Mh_s1, Mh_2, Mh_s2, Mh_3, Mh_s3, Mh_4, Mh_s4, Mh_5, Mh_s5, Mh_6, Mh_s6, Mh_7, Mh_s7, Mh_8, Mh_s8, Mh_9, Mh_s9, Mh_10, Mh_s10, Mh_11, Mh_s11, Mh_12, Mh_s12, Mh_13, Mh_s13, Mh_14, Mh_s14, Mh_15, Mh_s15, Mh_16, Mh_s16, Mh_17, Mh_s17, Mh_18, Mh_s18, Mh_19, Mh_s19, Mh_20, Mh_s20, Mh_21, Mh_s21, Mh_22, Mh_s22, Mh_23, Mh_s23, Mh_24, Mh_s24, Mh_p]
  refine q_wk (z_Mo_bound E P hL hco hq L.length 0 (by omega)) ⟨rfl, rfl, rfl, ?_, rfl, trivial⟩
  cases ls <;> rfl
