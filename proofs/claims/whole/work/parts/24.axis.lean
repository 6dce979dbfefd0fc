/-! Outline.readsAxis -/
/-- a step: by how much, how many bytes; none: they aren't there -/
def ST1 (F : Nat → Nat) (e f sb eb p : Nat) : Option (Int × Nat) :=
  if BT f sb then (if p + 1 ≤ e then some (if BT f eb then (F p : Int) else -(F p : Int), p + 1) else none)
  else if BT f eb then some (0, p) else if p + 2 ≤ e then some (S16 (w2 F p), p + 2) else none
/-- after i points: the coordinate, the place -/
def AS (F : Nat → Nat) (e : Nat) (fl : Nat → Nat) (sb eb p0 : Nat) : Nat → Option (Int × Nat)
  | 0 => some (0, p0)
  | i + 1 => match AS F e fl sb eb p0 i with
    | none => none
    | some (v, p) => match ST1 F e (fl i) sb eb p with
      | none => none
      | some (s, p') => if -16384 ≤ v + s ∧ v + s ≤ 16383 then some (v + s, p') else none
def AX (F : Nat → Nat) (e : Nat) (fl : Nat → Nat) (sb eb p0 i : Nat) : Int := match AS F e fl sb eb p0 (i + 1) with
  | some (v, _) => v
  | none => 0
theorem AS_none {F : Nat → Nat} {e sb eb p0 i : Nat} {fl : Nat → Nat} (h : AS F e fl sb eb p0 i = none) : ∀ r, AS F e fl sb eb p0 (i + r) = none
  | 0 => h
  | r + 1 => by
    show AS F e fl sb eb p0 (i + r + 1) = none
    unfold AS
    rw [AS_none h r]
theorem AS_b {F : Nat → Nat} {e sb eb p0 : Nat} {fl : Nat → Nat} (hp : p0 ≤ e) : ∀ i v p, AS F e fl sb eb p0 i = some (v, p) → q_co v ∧ p ≤ e
  | 0, v, p, h => by cases h; exact ⟨⟨by omega, by omega⟩, hp⟩
  | i + 1, v, p, h => by
    unfold AS at h
    cases hi : AS F e fl sb eb p0 i with
    | none => rw [hi] at h; cases h
    | some x =>
      obtain ⟨a, b⟩ := x
      rw [hi] at h
      have ih := AS_b hp i a b hi
      dsimp only at h
      cases hs : ST1 F e (fl i) sb eb b with
      | none => rw [hs] at h; cases h
      | some y =>
        obtain ⟨s, p'⟩ := y
        rw [hs] at h
        dsimp only at h
        split at h
        · rename_i hc
          cases h
          refine ⟨hc, ?_⟩
          unfold ST1 at hs
          split at hs
          · split at hs
            · cases hs; omega
            · cases hs
          · split at hs
            · cases hs; exact ih.2
            · split at hs
              · cases hs; omega
              · cases hs
        · cases h
theorem AS_succ (F : Nat → Nat) (e : Nat) (fl : Nat → Nat) (sb eb p0 i : Nat) : AS F e fl sb eb p0 (i + 1) = match AS F e fl sb eb p0 i with
    | none => none
    | some (v, p) => match ST1 F e (fl i) sb eb p with
      | none => none
      | some (s, p') => if -16384 ≤ v + s ∧ v + s ≤ 16383 then some (v + s, p') else none := rfl
def AXs (F : Nat → Nat) (e : Nat) (fl : Nat → Nat) (sb eb p0 first k : Nat) (g0 g : Nat → Int32) : Prop := (∀ j, j < k → g (first + j) = iI (AX F e fl sb eb p0 j)) ∧ ∀ j, (j < first ∨ first + k ≤ j) → g j = g0 j
theorem q_bitk {v k : Nat} {c : Int32} (hc : c = nI (2 ^ k)) (hk : k < 16) (hv : v < 256) : (nI v &&& c = 0) = ¬ BT v k := by rw [hc]; exact propext (q_bit (by omega) hk)
theorem iI_neg (a : Int) : -iI a = iI (-a) := by
  have := iI_sub 0 a
  rw [show (0 : Int) - a = -a by omega] at this
  rw [← this, show iI 0 = 0 from rfl]
  exact (Int32.zero_sub _).symm
-- at the place 33
set_option maxRecDepth 100000 in
set_option maxHeartbeats 4000000 in
theorem x_Ou_readsAxis {G : q_G} {l : Launch} {d u a f row m n sz pts e i v sb eb p : Nat} {ro cts prd wg x2 c3 c4 : Int32} {z : Int} {g gf : Nat → Int32} {F : Nat → Nat} {h : q_H} {Q : q_P} (hs : e ≤ sz) (hpe : p ≤ e) (hi : i < 512) (hv : v < 256) (hsb : c3 = nI (2 ^ sb) ∧ sb < 16) (hB : q_By h f row m g sz F) (hO : h u = some (e_Ou u (nI pts) cts prd wg)) (hfl : q_ar5 h (u + 3) gf) (hgf : gf i = nI v) (hC : q_Cu h (u + 5) f p e ro) (h5 : u + 5 ≠ f ∧ u + 5 ≠ row)
    (k : ∀ h' s p' r', q_1 h h' (u + 5) → q_Cu h' (u + 5) f p' e r' → ((ST1 F e v sb eb p = some (s, p') ∧ r' = ro) ∨ (ST1 F e v sb eb p = none ∧ r' = 1)) → p' ≤ e → -40000 ≤ s ∧ s ≤ 40000 → ∀ x7 x8, q_Z G l M_Ou_readsAxis (d + 1) 0 0 Q 95 [some (.ref u), some (.ref a), some (.int x2), some (.int c3), some (.int c4), some (.int (iI (z + s))), some (.int (nI i)), x7, x8] [] h' n 0 0) :
    q_Z G l M_Ou_readsAxis (d + 1) 0 0 Q 33 [some (.ref u), some (.ref a), some (.int x2), some (.int c3), some (.int c4), some (.int (iI z)), some (.int (nI i)), none, none] [.int (q_z (BT v eb))] h n 0 0 := by
  have hF := hB.2.2.2.2.2.2
  have hO' := hO
  unfold e_Ou at hO'
  have hfl' : h (u + 3) = some (.inl (0, 512, .inl gf)) := hfl
  have hC' : h (u + 5) = some (.inr (2, [.ref f, .int (nI p), .int (nI e), .int ro])) := hC
  have S := hsb.1
  unfold ST1 at k
  refine q_at o_Ou_readsAxis [95] 20 l_Ou_readsAxis_33 ?_
  simp -implicitDefEqProofs only [s_go, s_nil, s_cons, q_ins, s_op, s_i, s_j, s_a, s_v, s_li, s_lj, s_la, s_liO, s_ljO, s_laO, q_get, q_p1, q_p2, s_n2i, s_n2r, s_n2l, s_n2n, q_pad, q_ar, s_ob, s_obO, q_nth, s_ri, s_riO, s_rb, s_rbO, s_rzO, s_rl, s_rlO, s_rq, s_rqO, s_ry, s_ryO, s_dn, s_tl, s_tn, s_ap, s_an, s_ci, s_cr, s_ni, s_n0, s_n1, q_ags, q_cat, List.contains_nil, List.contains_cons, Nat.reduceBEq, Bool.or_false, Bool.false_or, Bool.true_or, Bool.false_eq_true, ↓reduceIte, Nat.le_refl, Nat.zero_le, true_and, and_true, Nat.reduceLeDiff, Nat.reduceAdd, Nat.add_zero, Nat.zero_add, List.length_cons, List.length_nil, List.set_cons_zero, List.set_cons_succ, Nat.reduceLT, s_fi, s_fl, s_fo, s_fa, s_f0, s_f1, s_set, s_ss, lg_cmp_ge, lg_cmp_le, lg_cmp_gt, lg_cmp_lt, lg_cmp_eq, s_brT, s_brF, s_10, w_Ou_readsAxis, r_Ou_readsAxis, l_Ou_readsAxis_0, l_Ou_readsAxis_6, l_Ou_readsAxis_32, l_Ou_readsAxis_33, l_Ou_readsAxis_68, l_Ou_readsAxis_71, l_Ou_readsAxis_77, l_Ou_readsAxis_95, l_Ou_readsAxis_106, l_Ou_readsAxis_118, l_Ou_readsAxis_132, l_Ou_readsAxis_133, kc_0, f_4_50, f_4_18, kc_1, f_4_29, ml_4_112, w_Cu_u8, ml_4_78, w_Cu_u16, ml_4_115, w_Ou_isCoordinate, f_4_86, hO', hfl', hC', nI_clamp (show i < 2 ^ 31 by omega), hgf, q_bitk hsb.1 hsb.2 hv]
  refine ⟨vp_in_nI (by omega) (by omega), ?_⟩
  refine ⟨fun c => ?_, fun c => ?_⟩
  · simp only [if_neg c] at k
    by_cases he : BT v eb
    · simp only [if_pos he] at k
      rw [q_z_t he]
      refine ⟨fun y => absurd y (by decide), fun _ => ?_⟩
      have := k h 0 p ro (fun _ _ => rfl) hC (Or.inl ⟨rfl, rfl⟩) hpe (by omega) (some (.int 1)) none
      rw [Int.add_zero] at this
      exact this
    · simp only [if_neg he] at k
      rw [q_z_f he]
      refine ⟨fun _ => ?_, fun y => absurd rfl y⟩
      refine q_c0 (Nat.le_refl _) (Nat.le_refl _) ?_
      refine c_Cu_u16X hC hB hs hpe (fun h2 v2 p2 r2 t2 C2 R2 => ?_)
      have hv2 : v2 < 65536 := by have := w2_lt hF p; omega
      simp -implicitDefEqProofs only [s_go, s_nil, s_cons, q_ins, s_op, s_i, s_j, s_a, s_v, s_li, s_lj, s_la, s_liO, s_ljO, s_laO, q_get, q_p1, q_p2, s_n2i, s_n2r, s_n2l, s_n2n, q_pad, q_ar, s_ob, s_obO, q_nth, s_ri, s_riO, s_rb, s_rbO, s_rzO, s_rl, s_rlO, s_rq, s_rqO, s_ry, s_ryO, s_dn, s_tl, s_tn, s_ap, s_an, s_ci, s_cr, s_ni, s_n0, s_n1, q_ags, q_cat, List.contains_nil, List.contains_cons, Nat.reduceBEq, Bool.or_false, Bool.false_or, Bool.true_or, Bool.false_eq_true, ↓reduceIte, Nat.le_refl, Nat.zero_le, true_and, and_true, Nat.reduceLeDiff, Nat.reduceAdd, Nat.add_zero, Nat.zero_add, List.length_cons, List.length_nil, List.set_cons_zero, List.set_cons_succ, Nat.reduceLT, s_fi, s_fl, s_fo, s_fa, s_f0, s_f1, s_set, s_ss, lg_cmp_ge, lg_cmp_le, lg_cmp_gt, lg_cmp_lt, lg_cmp_eq, s_brT, s_brF, s_10, w_Ou_readsAxis, r_Ou_readsAxis, l_Ou_readsAxis_0, l_Ou_readsAxis_6, l_Ou_readsAxis_32, l_Ou_readsAxis_33, l_Ou_readsAxis_68, l_Ou_readsAxis_71, l_Ou_readsAxis_77, l_Ou_readsAxis_95, l_Ou_readsAxis_106, l_Ou_readsAxis_118, l_Ou_readsAxis_132, l_Ou_readsAxis_133, kc_0, f_4_50, f_4_18, kc_1, f_4_29, ml_4_112, w_Cu_u8, ml_4_78, w_Cu_u16, ml_4_115, w_Ou_isCoordinate, f_4_86, q_s16' hv2, iI_add]
      have sm := S16_sm hv2
      rcases R2 with ⟨y1, y2, y3, y4⟩ | ⟨y1, y2, y3, y4⟩
      · subst y2
        refine k h2 _ p2 r2 t2 C2 (Or.inl ⟨?_, y4⟩) (by omega) ⟨by have := sm.1; omega, by have := sm.2; omega⟩ _ _
        rw [if_pos y1, y3]
      · subst y2
        refine k h2 _ p2 r2 t2 C2 (Or.inr ⟨?_, y4⟩) (by omega) ⟨by decide, by decide⟩ _ _
        rw [if_neg (by omega)]
  · have c := Decidable.not_not.mp c
    simp only [if_pos c] at k
    refine q_c0 (Nat.le_refl _) (Nat.le_refl _) ?_
    refine c_Cu_u8X hC hB hs hpe (fun h2 v2 p2 r2 t2 C2 R2 => ?_)
    have hv2 : v2 < 256 := by have := hF p; omega
    simp -implicitDefEqProofs only [s_go, s_nil, s_cons, q_ins, s_op, s_i, s_j, s_a, s_v, s_li, s_lj, s_la, s_liO, s_ljO, s_laO, q_get, q_p1, q_p2, s_n2i, s_n2r, s_n2l, s_n2n, q_pad, q_ar, s_ob, s_obO, q_nth, s_ri, s_riO, s_rb, s_rbO, s_rzO, s_rl, s_rlO, s_rq, s_rqO, s_ry, s_ryO, s_dn, s_tl, s_tn, s_ap, s_an, s_ci, s_cr, s_ni, s_n0, s_n1, q_ags, q_cat, List.contains_nil, List.contains_cons, Nat.reduceBEq, Bool.or_false, Bool.false_or, Bool.true_or, Bool.false_eq_true, ↓reduceIte, Nat.le_refl, Nat.zero_le, true_and, and_true, Nat.reduceLeDiff, Nat.reduceAdd, Nat.add_zero, Nat.zero_add, List.length_cons, List.length_nil, List.set_cons_zero, List.set_cons_succ, Nat.reduceLT, s_fi, s_fl, s_fo, s_fa, s_f0, s_f1, s_set, s_ss, lg_cmp_ge, lg_cmp_le, lg_cmp_gt, lg_cmp_lt, lg_cmp_eq, s_brT, s_brF, s_10, w_Ou_readsAxis, r_Ou_readsAxis, l_Ou_readsAxis_0, l_Ou_readsAxis_6, l_Ou_readsAxis_32, l_Ou_readsAxis_33, l_Ou_readsAxis_68, l_Ou_readsAxis_71, l_Ou_readsAxis_77, l_Ou_readsAxis_95, l_Ou_readsAxis_106, l_Ou_readsAxis_118, l_Ou_readsAxis_132, l_Ou_readsAxis_133, kc_0, f_4_50, f_4_18, kc_1, f_4_29, ml_4_112, w_Cu_u8, ml_4_78, w_Cu_u16, ml_4_115, w_Ou_isCoordinate, f_4_86]
    by_cases he : BT v eb
    · simp only [if_pos he] at k
      rw [q_z_t he]
      refine ⟨fun y => absurd y (by decide), fun _ => ?_⟩
      rw [show iI z + nI v2 = iI (z + (v2 : Int)) from iI_add z v2]
      rcases R2 with ⟨y1, y2, y3, y4⟩ | ⟨y1, y2, y3, y4⟩
      · subst y2
        refine k h2 _ p2 r2 t2 C2 (Or.inl ⟨?_, y4⟩) (by omega) ⟨by omega, by omega⟩ _ _
        rw [if_pos y1, y3]
      · subst y2
        refine k h2 _ p2 r2 t2 C2 (Or.inr ⟨?_, y4⟩) (by omega) ⟨by omega, by omega⟩ _ _
        rw [if_neg (by omega)]
    · simp only [if_neg he] at k
      rw [q_z_f he]
      refine ⟨fun _ => ?_, fun y => absurd rfl y⟩
      rw [show iI z + -nI v2 = iI (z + -(v2 : Int)) by rw [← iI_nat, iI_neg, iI_add]]
      rcases R2 with ⟨y1, y2, y3, y4⟩ | ⟨y1, y2, y3, y4⟩
      · subst y2
        refine k h2 _ p2 r2 t2 C2 (Or.inl ⟨?_, y4⟩) (by omega) ⟨by omega, by omega⟩ _ _
        rw [if_pos y1, y3]
      · subst y2
        refine k h2 _ p2 r2 t2 C2 (Or.inr ⟨?_, y4⟩) (by omega) ⟨by omega, by omega⟩ _ _
        rw [if_neg (by omega)]
-- the place 95: the coordinate is looked at and laid; then the loop's head
set_option maxRecDepth 100000 in
set_option maxHeartbeats 4000000 in
theorem v_Ou_readsAxis {G : q_G} {l : Launch} {d u a n i : Nat} {x2 c3 c4 : Int32} {z : Int} {ga : Nat → Int32} {h : q_H} {Q : q_P} (hi : i < 512) (hz : -100000 ≤ z ∧ z ≤ 100000) (hO : ∃ pts cts prd wg, h u = some (e_Ou u pts cts prd wg)) (hA : q_ar5 h a ga)
    (k1 : q_co z → q_Z G l M_Ou_readsAxis (d + 1) 0 0 Q 6 [some (.ref u), some (.ref a), some (.int x2), some (.int c3), some (.int c4), some (.int (iI z)), some (.int (nI (i + 1))), none, none] [] (q_set h a (.inl (0, 512, .inl (upd ga i (iI z))))) n 0 0) (k0 : ¬ q_co z → Q (some (.int 0)) h n) {x7 x8 : Option Value} :
    q_Z G l M_Ou_readsAxis (d + 1) 0 0 Q 95 [some (.ref u), some (.ref a), some (.int x2), some (.int c3), some (.int c4), some (.int (iI z)), some (.int (nI i)), x7, x8] [] h n 0 0 := by
  obtain ⟨pts, cts, prd, wg, hO⟩ := hO
  unfold e_Ou at hO
  have hA' : h a = some (.inl (0, 512, .inl ga)) := hA
  refine q_at o_Ou_readsAxis [6] 20 l_Ou_readsAxis_95 ?_
  simp -implicitDefEqProofs only [s_go, s_nil, s_cons, q_ins, s_op, s_i, s_j, s_a, s_v, s_li, s_lj, s_la, s_liO, s_ljO, s_laO, q_get, q_p1, q_p2, s_n2i, s_n2r, s_n2l, s_n2n, q_pad, q_ar, s_ob, s_obO, q_nth, s_ri, s_riO, s_rb, s_rbO, s_rzO, s_rl, s_rlO, s_rq, s_rqO, s_ry, s_ryO, s_dn, s_tl, s_tn, s_ap, s_an, s_ci, s_cr, s_ni, s_n0, s_n1, q_ags, q_cat, List.contains_nil, List.contains_cons, Nat.reduceBEq, Bool.or_false, Bool.false_or, Bool.true_or, Bool.false_eq_true, ↓reduceIte, Nat.le_refl, Nat.zero_le, true_and, and_true, Nat.reduceLeDiff, Nat.reduceAdd, Nat.add_zero, Nat.zero_add, List.length_cons, List.length_nil, List.set_cons_zero, List.set_cons_succ, Nat.reduceLT, s_fi, s_fl, s_fo, s_fa, s_f0, s_f1, s_set, s_ss, lg_cmp_ge, lg_cmp_le, lg_cmp_gt, lg_cmp_lt, lg_cmp_eq, s_brT, s_brF, s_10, w_Ou_readsAxis, r_Ou_readsAxis, l_Ou_readsAxis_0, l_Ou_readsAxis_6, l_Ou_readsAxis_32, l_Ou_readsAxis_33, l_Ou_readsAxis_68, l_Ou_readsAxis_71, l_Ou_readsAxis_77, l_Ou_readsAxis_95, l_Ou_readsAxis_106, l_Ou_readsAxis_118, l_Ou_readsAxis_132, l_Ou_readsAxis_133, kc_0, f_4_50, f_4_18, kc_1, f_4_29, ml_4_112, w_Cu_u8, ml_4_78, w_Cu_u16, ml_4_115, w_Ou_isCoordinate, f_4_86, hO, hA']
  refine q_c0 (Nat.le_refl _) (Nat.le_refl _) ?_
  refine c_Ou_isCoordinate (by omega) (fun y => ?_) (fun y => ?_)
  · simp -implicitDefEqProofs only [s_go, s_nil, s_cons, q_ins, s_op, s_i, s_j, s_a, s_v, s_li, s_lj, s_la, s_liO, s_ljO, s_laO, q_get, q_p1, q_p2, s_n2i, s_n2r, s_n2l, s_n2n, q_pad, q_ar, s_ob, s_obO, q_nth, s_ri, s_riO, s_rb, s_rbO, s_rzO, s_rl, s_rlO, s_rq, s_rqO, s_ry, s_ryO, s_dn, s_tl, s_tn, s_ap, s_an, s_ci, s_cr, s_ni, s_n0, s_n1, q_ags, q_cat, List.contains_nil, List.contains_cons, Nat.reduceBEq, Bool.or_false, Bool.false_or, Bool.true_or, Bool.false_eq_true, ↓reduceIte, Nat.le_refl, Nat.zero_le, true_and, and_true, Nat.reduceLeDiff, Nat.reduceAdd, Nat.add_zero, Nat.zero_add, List.length_cons, List.length_nil, List.set_cons_zero, List.set_cons_succ, Nat.reduceLT, s_fi, s_fl, s_fo, s_fa, s_f0, s_f1, s_set, s_ss, lg_cmp_ge, lg_cmp_le, lg_cmp_gt, lg_cmp_lt, lg_cmp_eq, s_brT, s_brF, s_10, w_Ou_readsAxis, r_Ou_readsAxis, l_Ou_readsAxis_0, l_Ou_readsAxis_6, l_Ou_readsAxis_32, l_Ou_readsAxis_33, l_Ou_readsAxis_68, l_Ou_readsAxis_71, l_Ou_readsAxis_77, l_Ou_readsAxis_95, l_Ou_readsAxis_106, l_Ou_readsAxis_118, l_Ou_readsAxis_132, l_Ou_readsAxis_133, kc_0, f_4_50, f_4_18, kc_1, f_4_29, ml_4_112, w_Cu_u8, ml_4_78, w_Cu_u16, ml_4_115, w_Ou_isCoordinate, f_4_86, hA', nI_1, nI_clamp (show i < 2 ^ 31 by omega)]
    exact ⟨vp_in_nI (by omega) (by omega), q_wk (k1 y) ⟨rfl, rfl, rfl, rfl, rfl, rfl, rfl, trivial⟩⟩
  · simp -implicitDefEqProofs only [s_go, s_nil, s_cons, q_ins, s_op, s_i, s_j, s_a, s_v, s_li, s_lj, s_la, s_liO, s_ljO, s_laO, q_get, q_p1, q_p2, s_n2i, s_n2r, s_n2l, s_n2n, q_pad, q_ar, s_ob, s_obO, q_nth, s_ri, s_riO, s_rb, s_rbO, s_rzO, s_rl, s_rlO, s_rq, s_rqO, s_ry, s_ryO, s_dn, s_tl, s_tn, s_ap, s_an, s_ci, s_cr, s_ni, s_n0, s_n1, q_ags, q_cat, List.contains_nil, List.contains_cons, Nat.reduceBEq, Bool.or_false, Bool.false_or, Bool.true_or, Bool.false_eq_true, ↓reduceIte, Nat.le_refl, Nat.zero_le, true_and, and_true, Nat.reduceLeDiff, Nat.reduceAdd, Nat.add_zero, Nat.zero_add, List.length_cons, List.length_nil, List.set_cons_zero, List.set_cons_succ, Nat.reduceLT, s_fi, s_fl, s_fo, s_fa, s_f0, s_f1, s_set, s_ss, lg_cmp_ge, lg_cmp_le, lg_cmp_gt, lg_cmp_lt, lg_cmp_eq, s_brT, s_brF, s_10, w_Ou_readsAxis, r_Ou_readsAxis, l_Ou_readsAxis_0, l_Ou_readsAxis_6, l_Ou_readsAxis_32, l_Ou_readsAxis_33, l_Ou_readsAxis_68, l_Ou_readsAxis_71, l_Ou_readsAxis_77, l_Ou_readsAxis_95, l_Ou_readsAxis_106, l_Ou_readsAxis_118, l_Ou_readsAxis_132, l_Ou_readsAxis_133, kc_0, f_4_50, f_4_18, kc_1, f_4_29, ml_4_112, w_Cu_u8, ml_4_78, w_Cu_u16, ml_4_115, w_Ou_isCoordinate, f_4_86]
    exact k0 y
def q_no (a b c d e : Nat) : Prop := a ≠ b ∧ a ≠ c ∧ a ≠ d ∧ a ≠ e
-- once it ran out
set_option maxRecDepth 100000 in
set_option maxHeartbeats 4000000 in
theorem y_Ou_readsAxis {G : q_G} {l : Launch} {d u a f row m n sz pts e sb eb : Nat} {cts prd wg x2 c3 c4 : Int32} {g gf : Nat → Int32} {F : Nat → Nat} {Q : q_P} (hs : e ≤ sz) (hpts : pts ≤ 512) {h : q_H} (ha : a = u + 1 ∨ a = u + 2) (haf : a ≠ f ∧ a ≠ row) (h5 : u + 5 ≠ f ∧ u + 5 ≠ row) (hsb : c3 = nI (2 ^ sb) ∧ sb < 16) (heb : c4 = nI (2 ^ eb) ∧ eb < 16) (hB : q_By h f row m g sz F) (hO : h u = some (e_Ou u (nI pts) cts prd wg)) (hfl : q_ar5 h (u + 3) gf) (i0 : Nat) (hgf : ∀ j, i0 ≤ j → j < pts → ∃ v, v < 256 ∧ gf j = nI v)
    (q0 : ∀ h' g' p', q_2 h h' a (u + 5) → q_ar5 h' a g' → q_Cu h' (u + 5) f p' e 1 → Q (some (.int 0)) h' n) :
    ∀ (r i : Nat) (z : Int) (h' : q_H) (ga : Nat → Int32) (p : Nat), i + r = pts → i0 ≤ i → q_co z → p ≤ e → q_2 h h' a (u + 5) → q_ar5 h' a ga → q_Cu h' (u + 5) f p e 1 → q_Z G l M_Ou_readsAxis (d + 1) 0 0 Q 6 [some (.ref u), some (.ref a), some (.int x2), some (.int c3), some (.int c4), some (.int (iI z)), some (.int (nI i)), none, none] [] h' n 0 0 := by
  have hF := hB.2.2.2.2.2.2
  intro r
  induction r with
  | zero =>
    intro i z h' ga p hi hi0 hz hp f1 A1 C1
    have O1 : h' u = _ := (f1 u (by omega) (by omega)).trans hO
    unfold e_Ou at O1
    have C1' : h' (u + 5) = some (.inr (2, [.ref f, .int (nI p), .int (nI e), .int 1])) := C1
    refine q_at o_Ou_readsAxis [6] 20 l_Ou_readsAxis_6 ?_
    simp -implicitDefEqProofs only [s_go, s_nil, s_cons, q_ins, s_op, s_i, s_j, s_a, s_v, s_li, s_lj, s_la, s_liO, s_ljO, s_laO, q_get, q_p1, q_p2, s_n2i, s_n2r, s_n2l, s_n2n, q_pad, q_ar, s_ob, s_obO, q_nth, s_ri, s_riO, s_rb, s_rbO, s_rzO, s_rl, s_rlO, s_rq, s_rqO, s_ry, s_ryO, s_dn, s_tl, s_tn, s_ap, s_an, s_ci, s_cr, s_ni, s_n0, s_n1, q_ags, q_cat, List.contains_nil, List.contains_cons, Nat.reduceBEq, Bool.or_false, Bool.false_or, Bool.true_or, Bool.false_eq_true, ↓reduceIte, Nat.le_refl, Nat.zero_le, true_and, and_true, Nat.reduceLeDiff, Nat.reduceAdd, Nat.add_zero, Nat.zero_add, List.length_cons, List.length_nil, List.set_cons_zero, List.set_cons_succ, Nat.reduceLT, s_fi, s_fl, s_fo, s_fa, s_f0, s_f1, s_set, s_ss, lg_cmp_ge, lg_cmp_le, lg_cmp_gt, lg_cmp_lt, lg_cmp_eq, s_brT, s_brF, s_10, w_Ou_readsAxis, r_Ou_readsAxis, l_Ou_readsAxis_0, l_Ou_readsAxis_6, l_Ou_readsAxis_32, l_Ou_readsAxis_33, l_Ou_readsAxis_68, l_Ou_readsAxis_71, l_Ou_readsAxis_77, l_Ou_readsAxis_95, l_Ou_readsAxis_106, l_Ou_readsAxis_118, l_Ou_readsAxis_132, l_Ou_readsAxis_133, kc_0, f_4_50, f_4_18, kc_1, f_4_29, ml_4_112, w_Cu_u8, ml_4_78, w_Cu_u16, ml_4_115, w_Ou_isCoordinate, f_4_86, O1, C1']
    exact ⟨fun _ => q0 h' ga p f1 A1 C1, fun c => absurd (nI_le (by omega) (by omega)) c⟩
  | succ r ih =>
    intro i z h' ga p hi hi0 hz hp f1 A1 C1
    have O1 := (f1 u (by omega) (by omega)).trans hO
    have O1' := O1
    unfold e_Ou at O1'
    have L1 : q_ar5 h' (u + 3) gf := (f1 _ (by omega) (by omega)).trans hfl
    have L1' : h' (u + 3) = some (.inl (0, 512, .inl gf)) := L1
    obtain ⟨v, hv, hgv⟩ := hgf i hi0 (by omega)
    have B1 : q_By h' f row m g sz F := hB.mv (f1 f (by omega) (by omega)) (f1 row (by omega) (by omega))
    have hz1 := hz.1
    have hz2 := hz.2
    have go : q_Z G l M_Ou_readsAxis (d + 1) 0 0 Q 33 [some (.ref u), some (.ref a), some (.int x2), some (.int c3), some (.int c4), some (.int (iI z)), some (.int (nI i)), none, none] [.int (q_z (BT v eb))] h' n 0 0 := by
      refine x_Ou_readsAxis hs hp (by omega) hv hsb B1 O1 L1 hgv C1 h5 (fun h2 s p2 r2 t2 C2 R2 hp2 hs2 x7 x8 => ?_)
      have hr2 : r2 = 1 := by rcases R2 with ⟨-, w⟩ | ⟨-, w⟩ <;> exact w
      subst hr2
      have f2 : q_2 h h2 a (u + 5) := fun b c1 c2 => (t2 b c2).trans (f1 b c1 c2)
      have A2 : q_ar5 h2 a ga := (t2 a (by omega)).trans A1
      refine v_Ou_readsAxis (by omega) (by omega) ⟨_, _, _, _, (f2 u (by omega) (by omega)).trans hO⟩ A2 (fun y => ?_) (fun y => q0 h2 ga p2 f2 A2 C2)
      refine ih (i + 1) (z + s) _ _ p2 (by omega) (by omega) y hp2 (fun b c1 c2 => by rw [s_ne _ _ c1]; exact f2 b c1 c2) (s_set _ _ _) ?_
      unfold q_Cu
      rw [s_ne _ _ (by omega)]
      exact C2
    refine q_at o_Ou_readsAxis [6, 33] 20 l_Ou_readsAxis_6 ?_
    simp -implicitDefEqProofs only [s_go, s_nil, s_cons, q_ins, s_op, s_i, s_j, s_a, s_v, s_li, s_lj, s_la, s_liO, s_ljO, s_laO, q_get, q_p1, q_p2, s_n2i, s_n2r, s_n2l, s_n2n, q_pad, q_ar, s_ob, s_obO, q_nth, s_ri, s_riO, s_rb, s_rbO, s_rzO, s_rl, s_rlO, s_rq, s_rqO, s_ry, s_ryO, s_dn, s_tl, s_tn, s_ap, s_an, s_ci, s_cr, s_ni, s_n0, s_n1, q_ags, q_cat, List.contains_nil, List.contains_cons, Nat.reduceBEq, Bool.or_false, Bool.false_or, Bool.true_or, Bool.false_eq_true, ↓reduceIte, Nat.le_refl, Nat.zero_le, true_and, and_true, Nat.reduceLeDiff, Nat.reduceAdd, Nat.add_zero, Nat.zero_add, List.length_cons, List.length_nil, List.set_cons_zero, List.set_cons_succ, Nat.reduceLT, s_fi, s_fl, s_fo, s_fa, s_f0, s_f1, s_set, s_ss, lg_cmp_ge, lg_cmp_le, lg_cmp_gt, lg_cmp_lt, lg_cmp_eq, s_brT, s_brF, s_10, w_Ou_readsAxis, r_Ou_readsAxis, l_Ou_readsAxis_0, l_Ou_readsAxis_6, l_Ou_readsAxis_32, l_Ou_readsAxis_33, l_Ou_readsAxis_68, l_Ou_readsAxis_71, l_Ou_readsAxis_77, l_Ou_readsAxis_95, l_Ou_readsAxis_106, l_Ou_readsAxis_118, l_Ou_readsAxis_132, l_Ou_readsAxis_133, kc_0, f_4_50, f_4_18, kc_1, f_4_29, ml_4_112, w_Cu_u8, ml_4_78, w_Cu_u16, ml_4_115, w_Ou_isCoordinate, f_4_86, O1', L1', nI_clamp (show i < 2 ^ 31 by omega), hgv, q_bitk heb.1 heb.2 hv]
    refine ⟨fun c => absurd ((nI_leI (by omega) (by omega)).mp c) (by omega), fun _ => ⟨vp_in_nI (by omega) (by omega), ?_⟩⟩
    refine ⟨fun c => ?_, fun c => ?_⟩
    · rw [q_z_f c] at go; exact go
    · rw [q_z_t (Decidable.not_not.mp c)] at go; exact go
set_option maxRecDepth 100000 in
set_option maxHeartbeats 4000000 in
theorem z_Ou_readsAxis {G : q_G} {l : Launch} {d u a f row m n sz pts e sb eb p0 first : Nat} {cts prd wg x2 c3 c4 : Int32} {g gf g0 : Nat → Int32} {fl : Nat → Nat} {F : Nat → Nat} {Q : q_P} (hs : e ≤ sz) (hpts : pts ≤ 512) (hp0 : p0 ≤ e) (hfi : first ≤ pts) {h : q_H} (ha : a = u + 1 ∨ a = u + 2) (haf : a ≠ f ∧ a ≠ row) (h5 : u + 5 ≠ f ∧ u + 5 ≠ row) (hsb : c3 = nI (2 ^ sb) ∧ sb < 16) (heb : c4 = nI (2 ^ eb) ∧ eb < 16) (hB : q_By h f row m g sz F) (hO : h u = some (e_Ou u (nI pts) cts prd wg)) (hfl : q_ar5 h (u + 3) gf) (hgf : ∀ j, j < pts - first → fl j < 256 ∧ gf (first + j) = nI (fl j))
    (q1 : ∀ v p', AS F e fl sb eb p0 (pts - first) = some (v, p') → ∀ h' g', q_2 h h' a (u + 5) → q_ar5 h' a g' → AXs F e fl sb eb p0 first (pts - first) g0 g' → q_Cu h' (u + 5) f p' e 0 → Q (some (.int 1)) h' n)
    (q0 : AS F e fl sb eb p0 (pts - first) = none → ∀ h' g' p' ro, (ro = 0 ∨ ro = 1) → q_2 h h' a (u + 5) → q_ar5 h' a g' → q_Cu h' (u + 5) f p' e ro → Q (some (.int 0)) h' n) :
    ∀ (r i : Nat) (z : Int) (p : Nat) (h' : q_H) (ga : Nat → Int32), first + i + r = pts → AS F e fl sb eb p0 i = some (z, p) → q_2 h h' a (u + 5) → q_ar5 h' a ga → AXs F e fl sb eb p0 first i g0 ga → q_Cu h' (u + 5) f p e 0 → q_Z G l M_Ou_readsAxis (d + 1) 0 0 Q 6 [some (.ref u), some (.ref a), some (.int x2), some (.int c3), some (.int c4), some (.int (iI z)), some (.int (nI (first + i))), none, none] [] h' n 0 0 := by
  have hF := hB.2.2.2.2.2.2
  intro r
  induction r with
  | zero =>
    intro i z p h' ga hi has f1 A1 X1 C1
    have O1 : h' u = _ := (f1 u (by omega) (by omega)).trans hO
    unfold e_Ou at O1
    have C1' : h' (u + 5) = some (.inr (2, [.ref f, .int (nI p), .int (nI e), .int 0])) := C1
    have hi' : pts - first = i := by omega
    refine q_at o_Ou_readsAxis [6] 20 l_Ou_readsAxis_6 ?_
    simp -implicitDefEqProofs only [s_go, s_nil, s_cons, q_ins, s_op, s_i, s_j, s_a, s_v, s_li, s_lj, s_la, s_liO, s_ljO, s_laO, q_get, q_p1, q_p2, s_n2i, s_n2r, s_n2l, s_n2n, q_pad, q_ar, s_ob, s_obO, q_nth, s_ri, s_riO, s_rb, s_rbO, s_rzO, s_rl, s_rlO, s_rq, s_rqO, s_ry, s_ryO, s_dn, s_tl, s_tn, s_ap, s_an, s_ci, s_cr, s_ni, s_n0, s_n1, q_ags, q_cat, List.contains_nil, List.contains_cons, Nat.reduceBEq, Bool.or_false, Bool.false_or, Bool.true_or, Bool.false_eq_true, ↓reduceIte, Nat.le_refl, Nat.zero_le, true_and, and_true, Nat.reduceLeDiff, Nat.reduceAdd, Nat.add_zero, Nat.zero_add, List.length_cons, List.length_nil, List.set_cons_zero, List.set_cons_succ, Nat.reduceLT, s_fi, s_fl, s_fo, s_fa, s_f0, s_f1, s_set, s_ss, lg_cmp_ge, lg_cmp_le, lg_cmp_gt, lg_cmp_lt, lg_cmp_eq, s_brT, s_brF, s_10, w_Ou_readsAxis, r_Ou_readsAxis, l_Ou_readsAxis_0, l_Ou_readsAxis_6, l_Ou_readsAxis_32, l_Ou_readsAxis_33, l_Ou_readsAxis_68, l_Ou_readsAxis_71, l_Ou_readsAxis_77, l_Ou_readsAxis_95, l_Ou_readsAxis_106, l_Ou_readsAxis_118, l_Ou_readsAxis_132, l_Ou_readsAxis_133, kc_0, f_4_50, f_4_18, kc_1, f_4_29, ml_4_112, w_Cu_u8, ml_4_78, w_Cu_u16, ml_4_115, w_Ou_isCoordinate, f_4_86, O1, C1']
    exact ⟨fun _ => q1 z p (by rw [hi']; exact has) h' ga f1 A1 (by rw [hi']; exact X1) C1, fun c => absurd (nI_le (by omega) (by omega)) c⟩
  | succ r ih =>
    intro i z p h' ga hi has f1 A1 X1 C1
    have hb := AS_b hp0 i z p has
    have hb1 := hb.1.1
    have hb2 := hb.1.2
    have O1 := (f1 u (by omega) (by omega)).trans hO
    have O1' := O1
    unfold e_Ou at O1'
    have L1 : q_ar5 h' (u + 3) gf := (f1 _ (by omega) (by omega)).trans hfl
    have L1' : h' (u + 3) = some (.inl (0, 512, .inl gf)) := L1
    obtain ⟨hv, hgv⟩ := hgf i (by omega)
    have B1 : q_By h' f row m g sz F := hB.mv (f1 f (by omega) (by omega)) (f1 row (by omega) (by omega))
    have hsu := AS_succ F e fl sb eb p0 i
    rw [has] at hsu
    dsimp only at hsu
    have bad : AS F e fl sb eb p0 (i + 1) = none → AS F e fl sb eb p0 (pts - first) = none := by
      intro y
      have := AS_none y (pts - first - (i + 1))
      rw [show i + 1 + (pts - first - (i + 1)) = pts - first by omega] at this
      exact this
    have go : q_Z G l M_Ou_readsAxis (d + 1) 0 0 Q 33 [some (.ref u), some (.ref a), some (.int x2), some (.int c3), some (.int c4), some (.int (iI z)), some (.int (nI (first + i))), none, none] [.int (q_z (BT (fl i) eb))] h' n 0 0 := by
      refine x_Ou_readsAxis hs hb.2 (by omega) hv hsb B1 O1 L1 hgv C1 h5 (fun h2 s p2 r2 t2 C2 R2 hp2 hs2 x7 x8 => ?_)
      have f2 : q_2 h h2 a (u + 5) := fun b c1 c2 => (t2 b c2).trans (f1 b c1 c2)
      have A2 : q_ar5 h2 a ga := (t2 a (by omega)).trans A1
      rcases R2 with ⟨y1, y2⟩ | ⟨y1, y2⟩
      · subst y2
        rw [y1] at hsu
        dsimp only at hsu
        refine v_Ou_readsAxis (by omega) (by omega) ⟨_, _, _, _, (f2 u (by omega) (by omega)).trans hO⟩ A2 (fun y => ?_) (fun y => q0 (bad (by rw [hsu, if_neg (show ¬ (-16384 ≤ z + s ∧ z + s ≤ 16383) from y)])) h2 ga p2 0 (Or.inl rfl) f2 A2 C2)
        rw [if_pos (show -16384 ≤ z + s ∧ z + s ≤ 16383 from y)] at hsu
        refine ih (i + 1) (z + s) p2 _ _ (by omega) hsu (fun b c1 c2 => by rw [s_ne _ _ c1]; exact f2 b c1 c2) (s_set _ _ _) ⟨fun j hj => ?_, fun j hj => ?_⟩ ?_
        · rcases Nat.lt_or_ge j i with w | w
          · rw [pk_un (by omega)]; exact X1.1 j w
          · have : j = i := by omega
            subst this
            rw [pk_us]
            unfold AX
            rw [hsu]
        · rw [pk_un (by omega)]; exact X1.2 j (by omega)
        · unfold q_Cu
          rw [s_ne _ _ (by omega)]
          exact C2
      · subst y2
        rw [y1] at hsu
        dsimp only at hsu
        refine v_Ou_readsAxis (by omega) (by omega) ⟨_, _, _, _, (f2 u (by omega) (by omega)).trans hO⟩ A2 (fun y => ?_) (fun y => q0 (bad hsu) h2 ga p2 1 (Or.inr rfl) f2 A2 C2)
        refine y_Ou_readsAxis hs hpts ha haf h5 hsb heb hB hO hfl first (fun j g1 g2 => ?_) (fun h3 g3 p3 f3 A3 C3 => q0 (bad hsu) h3 g3 p3 1 (Or.inr rfl) f3 A3 C3) r (first + i + 1) (z + s) _ _ p2 (by omega) (by omega) y hp2 (fun b c1 c2 => by rw [s_ne _ _ c1]; exact f2 b c1 c2) (s_set _ _ _) ?_
        · obtain ⟨w1, w2⟩ := hgf (j - first) (by omega)
          rw [show first + (j - first) = j by omega] at w2
          exact ⟨_, w1, w2⟩
        · unfold q_Cu
          rw [s_ne _ _ (by omega)]
          exact C2
    refine q_at o_Ou_readsAxis [6, 33] 20 l_Ou_readsAxis_6 ?_
    simp -implicitDefEqProofs only [s_go, s_nil, s_cons, q_ins, s_op, s_i, s_j, s_a, s_v, s_li, s_lj, s_la, s_liO, s_ljO, s_laO, q_get, q_p1, q_p2, s_n2i, s_n2r, s_n2l, s_n2n, q_pad, q_ar, s_ob, s_obO, q_nth, s_ri, s_riO, s_rb, s_rbO, s_rzO, s_rl, s_rlO, s_rq, s_rqO, s_ry, s_ryO, s_dn, s_tl, s_tn, s_ap, s_an, s_ci, s_cr, s_ni, s_n0, s_n1, q_ags, q_cat, List.contains_nil, List.contains_cons, Nat.reduceBEq, Bool.or_false, Bool.false_or, Bool.true_or, Bool.false_eq_true, ↓reduceIte, Nat.le_refl, Nat.zero_le, true_and, and_true, Nat.reduceLeDiff, Nat.reduceAdd, Nat.add_zero, Nat.zero_add, List.length_cons, List.length_nil, List.set_cons_zero, List.set_cons_succ, Nat.reduceLT, s_fi, s_fl, s_fo, s_fa, s_f0, s_f1, s_set, s_ss, lg_cmp_ge, lg_cmp_le, lg_cmp_gt, lg_cmp_lt, lg_cmp_eq, s_brT, s_brF, s_10, w_Ou_readsAxis, r_Ou_readsAxis, l_Ou_readsAxis_0, l_Ou_readsAxis_6, l_Ou_readsAxis_32, l_Ou_readsAxis_33, l_Ou_readsAxis_68, l_Ou_readsAxis_71, l_Ou_readsAxis_77, l_Ou_readsAxis_95, l_Ou_readsAxis_106, l_Ou_readsAxis_118, l_Ou_readsAxis_132, l_Ou_readsAxis_133, kc_0, f_4_50, f_4_18, kc_1, f_4_29, ml_4_112, w_Cu_u8, ml_4_78, w_Cu_u16, ml_4_115, w_Ou_isCoordinate, f_4_86, O1', L1', nI_clamp (show first + i < 2 ^ 31 by omega), hgv, q_bitk heb.1 heb.2 hv]
    refine ⟨fun c => absurd ((nI_leI (by omega) (by omega)).mp c) (by omega), fun _ => ⟨vp_in_nI (by omega) (by omega), ?_⟩⟩
    refine ⟨fun c => ?_, fun c => ?_⟩
    · rw [q_z_f c] at go; exact go
    · rw [q_z_t (Decidable.not_not.mp c)] at go; exact go
set_option maxRecDepth 100000 in
set_option maxHeartbeats 4000000 in
theorem c_Ou_readsAxis {G : q_G} {l : Launch} {d u a f row m n sz pts e sb eb p0 first : Nat} {cts prd wg c3 c4 : Int32} {g gf g0 : Nat → Int32} {fl : Nat → Nat} {F : Nat → Nat} {h : q_H} {Q : q_P} (hs : e ≤ sz) (hpts : pts ≤ 512) (hp0 : p0 ≤ e) (hfi : first ≤ pts) (ha : a = u + 1 ∨ a = u + 2) (haf : a ≠ f ∧ a ≠ row) (h5 : u + 5 ≠ f ∧ u + 5 ≠ row) (hsb : c3 = nI (2 ^ sb) ∧ sb < 16) (heb : c4 = nI (2 ^ eb) ∧ eb < 16) (hB : q_By h f row m g sz F) (hO : h u = some (e_Ou u (nI pts) cts prd wg)) (hA : q_ar5 h a g0) (hC : q_Cu h (u + 5) f p0 e 0) (hfl : q_ar5 h (u + 3) gf) (hgf : ∀ j, j < pts - first → fl j < 256 ∧ gf (first + j) = nI (fl j))
    (q1 : ∀ v p', AS F e fl sb eb p0 (pts - first) = some (v, p') → ∀ h' g', q_2 h h' a (u + 5) → q_ar5 h' a g' → AXs F e fl sb eb p0 first (pts - first) g0 g' → q_Cu h' (u + 5) f p' e 0 → Q (some (.int 1)) h' n)
    (q0 : AS F e fl sb eb p0 (pts - first) = none → ∀ h' g' p' ro, (ro = 0 ∨ ro = 1) → q_2 h h' a (u + 5) → q_ar5 h' a g' → q_Cu h' (u + 5) f p' e ro → Q (some (.int 0)) h' n) : q_Call G l M_Ou_readsAxis (d + 1) 0 0 [.ref u, .ref a, .int (nI first), .int c3, .int c4] h n Q := by
  refine q_in u_Ou_readsAxis (by rw [L_Ou_readsAxis]; exact Nat.le_of_ble_eq_true rfl) ?_
  rw [L_Ou_readsAxis]
  refine q_at o_Ou_readsAxis [6] 20 l_Ou_readsAxis_0 ?_
  simp -implicitDefEqProofs only [s_go, s_nil, s_cons, q_ins, s_op, s_i, s_j, s_a, s_v, s_li, s_lj, s_la, s_liO, s_ljO, s_laO, q_get, q_p1, q_p2, s_n2i, s_n2r, s_n2l, s_n2n, q_pad, q_ar, s_ob, s_obO, q_nth, s_ri, s_riO, s_rb, s_rbO, s_rzO, s_rl, s_rlO, s_rq, s_rqO, s_ry, s_ryO, s_dn, s_tl, s_tn, s_ap, s_an, s_ci, s_cr, s_ni, s_n0, s_n1, q_ags, q_cat, List.contains_nil, List.contains_cons, Nat.reduceBEq, Bool.or_false, Bool.false_or, Bool.true_or, Bool.false_eq_true, ↓reduceIte, Nat.le_refl, Nat.zero_le, true_and, and_true, Nat.reduceLeDiff, Nat.reduceAdd, Nat.add_zero, Nat.zero_add, List.length_cons, List.length_nil, List.set_cons_zero, List.set_cons_succ, Nat.reduceLT, s_fi, s_fl, s_fo, s_fa, s_f0, s_f1, s_set, s_ss, lg_cmp_ge, lg_cmp_le, lg_cmp_gt, lg_cmp_lt, lg_cmp_eq, s_brT, s_brF, s_10, w_Ou_readsAxis, r_Ou_readsAxis, l_Ou_readsAxis_0, l_Ou_readsAxis_6, l_Ou_readsAxis_32, l_Ou_readsAxis_33, l_Ou_readsAxis_68, l_Ou_readsAxis_71, l_Ou_readsAxis_77, l_Ou_readsAxis_95, l_Ou_readsAxis_106, l_Ou_readsAxis_118, l_Ou_readsAxis_132, l_Ou_readsAxis_133, kc_0, f_4_50, f_4_18, kc_1, f_4_29, ml_4_112, w_Cu_u8, ml_4_78, w_Cu_u16, ml_4_115, w_Ou_isCoordinate, f_4_86]
  exact z_Ou_readsAxis hs hpts hp0 hfi ha haf h5 hsb heb hB hO hfl hgf q1 q0 (pts - first) 0 0 p0 h g0 (by omega) rfl (fun _ _ _ => rfl) hA ⟨fun j hj => absurd hj (by omega), fun j _ => rfl⟩ hC
