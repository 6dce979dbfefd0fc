/-! Outline.readsAxis -/
/-- a step: by how much, how many bytes; none: they aren't there -/
def ST1 (F : Nat → Nat) (e f sb eb p : Nat) : Option (Int × Nat) :=
  if BT f sb then (if p + 1 ≤ e then some (if BT f eb then (F p : Int) else -(F p : Int), p + 1) else none)
  else if BT f eb then some (0, p) else if p + 2 ≤ e then some (S16 (w2 F p), p + 2) else none
/-- after i points: the coordinate, the place -/
def AS (F : Nat → Nat) (e : Nat) (fl : Nat → Nat) (sb eb p0 : Nat) : Nat → Option (Int × Nat)
  | 0 => some (0, p0)
  | i + 1 => match AS F e fl sb eb p0 i with
    | none => none
    | some (v, p) => match ST1 F e (fl i) sb eb p with
      | none => none
      | some (s, p') => if -16384 ≤ v + s ∧ v + s ≤ 16383 then some (v + s, p') else none
def AX (F : Nat → Nat) (e : Nat) (fl : Nat → Nat) (sb eb p0 i : Nat) : Int := match AS F e fl sb eb p0 (i + 1) with
  | some (v, _) => v
  | none => 0
theorem AS_none {F : Nat → Nat} {e sb eb p0 i : Nat} {fl : Nat → Nat} (h : AS F e fl sb eb p0 i = none) : ∀ r, AS F e fl sb eb p0 (i + r) = none
  | 0 => h
  | r + 1 => by
    show AS F e fl sb eb p0 (i + r + 1) = none
    unfold AS
    rw [AS_none h r]
theorem AS_b {F : Nat → Nat} {e sb eb p0 : Nat} {fl : Nat → Nat} (hp : p0 ≤ e) : ∀ i v p, AS F e fl sb eb p0 i = some (v, p) → q_co v ∧ p ≤ e
  | 0, v, p, h => by cases h; exact ⟨⟨by omega, by omega⟩, hp⟩
  | i + 1, v, p, h => by
    unfold AS at h
    cases hi : AS F e fl sb eb p0 i with
    | none => rw [hi] at h; cases h
    | some x =>
      obtain ⟨a, b⟩ := x
      rw [hi] at h
      have ih := AS_b hp i a b hi
      dsimp only at h
      cases hs : ST1 F e (fl i) sb eb b with
      | none => rw [hs] at h; cases h
      | some y =>
        obtain ⟨s, p'⟩ := y
        rw [hs] at h
        dsimp only at h
        split at h
        · rename_i hc
          cases h
          refine ⟨hc, ?_⟩
          unfold ST1 at hs
          split at hs
          · split at hs
            · cases hs; omega
            · cases hs
          · split at hs
            · cases hs; exact ih.2
            · split at hs
              · cases hs; omega
              · cases hs
        · cases h
theorem AS_succ (F : Nat → Nat) (e : Nat) (fl : Nat → Nat) (sb eb p0 i : Nat) : AS F e fl sb eb p0 (i + 1) = match AS F e fl sb eb p0 i with
    | none => none
    | some (v, p) => match ST1 F e (fl i) sb eb p with
      | none => none
      | some (s, p') => if -16384 ≤ v + s ∧ v + s ≤ 16383 then some (v + s, p') else none := rfl
def AXs (F : Nat → Nat) (e : Nat) (fl : Nat → Nat) (sb eb p0 first k : Nat) (g0 g : Nat → Int32) : Prop := (∀ j, j < k → g (first + j) = iI (AX F e fl sb eb p0 j)) ∧ ∀ j, (j < first ∨ first + k ≤ j) → g j = g0 j
theorem q_bitk {v k : Nat} {c : Int32} (hc : c = nI (2 ^ k)) (hk : k < 16) (hv : v < 256) : (nI v &&& c = 0) = ¬ BT v k := by rw [hc]; exact propext (q_bit (by omega) hk)
theorem iI_neg (a : Int) : -iI a = iI (-a) := by
  have := iI_sub 0 a
  rw [show (0 : Int) - a = -a by omega] at this
  rw [← this, show iI 0 = 0 from rfl]
  exact (Int32.zero_sub _).symm
-- at the place 33
set_option maxRecDepth 100000 in
set_option maxHeartbeats 4000000 in
theorem x_Ou_readsAxis {G : q_G} {l : Launch} {d u a f row m n sz pts e first i v sb eb p : Nat} {ro cts prd wg x2 c3 c4 : Int32} {z : Int} {g gf : Nat → Int32} {F : Nat → Nat} {h : q_H} {Q : q_P} (hs : e ≤ sz) (hpe : p ≤ e) (hi : i < 512) (hv : v < 256) (hsb : c3 = nI (2 ^ sb) ∧ sb < 16) (hB : q_By h f row m g sz F) (hO : h u = some (e_Ou u (nI pts) cts prd wg)) (hfl : q_ar5 h (u + 3) gf) (hgf : gf i = nI v) (hC : q_Cu h (u + 5) f p e ro) (h5 : u + 5 ≠ f ∧ u + 5 ≠ row)
    (k : ∀ h' s p' r', q_1 h h' (u + 5) → q_Cu h' (u + 5) f p' e r' → ((ST1 F e v sb eb p = some (s, p') ∧ r' = ro) ∨ (ST1 F e v sb eb p = none ∧ r' = 1)) → p' ≤ e → -40000 ≤ s ∧ s ≤ 40000 → ∀ x7 x8, q_Z G l M_Ou_readsAxis (d + 1) 0 0 Q 95 [some (.ref u), some (.ref a), some (.int x2), some (.int c3), some (.int c4), some (.int (iI (z + s))), some (.int (nI i)), x7, x8] [] h' n 0 0) :
    q_Z G l M_Ou_readsAxis (d + 1) 0 0 Q 33 [some (.ref u), some (.ref a), some (.int x2), some (.int c3), some (.int c4), some (.int (iI z)), some (.int (nI i)), none, none] [.int (q_z (BT v eb))] h n 0 0 := by
  have hF := hB.2.2.2.2.2.2
  have hO' := hO
  unfold e_Ou at hO'
  have hfl' : h (u + 3) = some (.inl (0, 512, .inl gf)) := hfl
  have hC' : h (u + 5) = some (.inr (2, [.ref f, .int (nI p), .int (nI e), .int ro])) := hC
  have S := hsb.1
  unfold ST1 at k
  refine q_at o_Ou_readsAxis [95] 20 l_Ou_readsAxis_33 ?_
  simp -implicitDefEqProofs only [s_go, s_nil, s_cons, q_ins, s_op, s_i, s_j, s_a, s_v, s_li, s_lj, s_la, s_liO, s_ljO, s_laO, q_get, q_p1, q_p2, s_n2i, s_n2r, s_n2l, s_n2n, q_pad, q_ar, s_ob, s_obO, q_nth, s_ri, s_riO, s_rb, s_rbO, s_rzO, s_rl, s_rlO, s_rq, s_rqO, s_ry, s_ryO, s_dn, s_tl, s_tn, s_ap, s_an, s_ci, s_cr, s_ni, s_n0, s_n1, q_ags, q_cat, List.contains_nil, List.contains_cons, Nat.reduceBEq, Bool.or_false, Bool.false_or, Bool.true_or, Bool.false_eq_true, ↓reduceIte, Nat.le_refl, Nat.zero_le, true_and, and_true, Nat.reduceLeDiff, Nat.reduceAdd, Nat.add_zero, Nat.zero_add, List.length_cons, List.length_nil, List.set_cons_zero, List.set_cons_succ, Nat.reduceLT, s_fi, s_fl, s_fo, s_fa, s_f0, s_f1, s_set, s_ss, lg_cmp_ge, lg_cmp_le, lg_cmp_gt, lg_cmp_lt, lg_cmp_eq, s_brT, s_brF, s_10, w_Ou_readsAxis, r_Ou_readsAxis, l_Ou_readsAxis_0, l_Ou_readsAxis_6, l_Ou_readsAxis_32, l_Ou_readsAxis_33, l_Ou_readsAxis_68, l_Ou_readsAxis_71, l_Ou_readsAxis_77, l_Ou_readsAxis_95, l_Ou_readsAxis_106, l_Ou_readsAxis_118, l_Ou_readsAxis_132, l_Ou_readsAxis_133, kc_0, f_4_50, f_4_18, kc_1, f_4_29, ml_4_112, w_Cu_u8, ml_4_78, w_Cu_u16, ml_4_115, w_Ou_isCoordinate, f_4_86, hO', hfl', hC', nI_clamp (show i < 2 ^ 31 by omega), hgf, q_bitk hsb.1 hsb.2 hv]
  refine ⟨vp_in_nI (by omega) (by omega), ?_⟩
  refine ⟨fun c => ?_, fun c => ?_⟩
  · simp only [if_neg c] at k
    by_cases he : BT v eb
    · simp only [if_pos he] at k
      rw [q_z_t he]
      refine ⟨fun y => absurd y (by decide), fun _ => ?_⟩
      have := k h 0 p ro (fun _ _ => rfl) hC (Or.inl ⟨rfl, rfl⟩) hpe (by omega) (some (.int 1)) none
      rw [Int.add_zero] at this
      exact this
    · simp only [if_neg he] at k
      rw [q_z_f he]
      refine ⟨fun _ => ?_, fun y => absurd rfl y⟩
      refine q_c0 (Nat.le_refl _) (Nat.le_refl _) ?_
      refine c_Cu_u16X hC hB hs hpe (fun h2 v2 p2 r2 t2 C2 R2 => ?_)
      have hv2 : v2 < 65536 := by have := w2_lt hF p; omega
      simp -implicitDefEqProofs only [s_go, s_nil, s_cons, q_ins, s_op, s_i, s_j, s_a, s_v, s_li, s_lj, s_la, s_liO, s_ljO, s_laO, q_get, q_p1, q_p2, s_n2i, s_n2r, s_n2l, s_n2n, q_pad, q_ar, s_ob, s_obO, q_nth, s_ri, s_riO, s_rb, s_rbO, s_rzO, s_rl, s_rlO, s_rq, s_rqO, s_ry, s_ryO, s_dn, s_tl, s_tn, s_ap, s_an, s_ci, s_cr, s_ni, s_n0, s_n1, q_ags, q_cat, List.contains_nil, List.contains_cons, Nat.reduceBEq, Bool.or_false, Bool.false_or, Bool.true_or, Bool.false_eq_true, ↓reduceIte, Nat.le_refl, Nat.zero_le, true_and, and_true, Nat.reduceLeDiff, Nat.reduceAdd, Nat.add_zero, Nat.zero_add, List.length_cons, List.length_nil, List.set_cons_zero, List.set_cons_succ, Nat.reduceLT, s_fi, s_fl, s_fo, s_fa, s_f0, s_f1, s_set, s_ss, lg_cmp_ge, lg_cmp_le, lg_cmp_gt, lg_cmp_lt, lg_cmp_eq, s_brT, s_brF, s_10, w_Ou_readsAxis, r_Ou_readsAxis, l_Ou_readsAxis_0, l_Ou_readsAxis_6, l_Ou_readsAxis_32, l_Ou_readsAxis_33, l_Ou_readsAxis_68, l_Ou_readsAxis_71, l_Ou_readsAxis_77, l_Ou_readsAxis_95, l_Ou_readsAxis_106, l_Ou_readsAxis_118, l_Ou_readsAxis_132, l_Ou_readsAxis_133, kc_0, f_4_50, f_4_18, kc_1, f_4_29, ml_4_112, w_Cu_u8, ml_4_78, w_Cu_u16, ml_4_115, w_Ou_isCoordinate, f_4_86, q_s16' hv2, iI_add]
      have sm := S16_sm hv2
      rcases R2 with ⟨y1, y2, y3, y4⟩ | ⟨y1, y2, y3, y4⟩
      · subst y2
        refine k h2 _ p2 r2 t2 C2 (Or.inl ⟨?_, y4⟩) (by omega) ⟨by have := sm.1; omega, by have := sm.2; omega⟩ _ _
        rw [if_pos y1, y3]
      · subst y2
        refine k h2 _ p2 r2 t2 C2 (Or.inr ⟨?_, y4⟩) (by omega) ⟨by decide, by decide⟩ _ _
        rw [if_neg (by omega)]
  · have c := Decidable.not_not.mp c
    simp only [if_pos c] at k
    refine q_c0 (Nat.le_refl _) (Nat.le_refl _) ?_
    refine c_Cu_u8X hC hB hs hpe (fun h2 v2 p2 r2 t2 C2 R2 => ?_)
    have hv2 : v2 < 256 := by have := hF p; omega
    simp -implicitDefEqProofs only [s_go, s_nil, s_cons, q_ins, s_op, s_i, s_j, s_a, s_v, s_li, s_lj, s_la, s_liO, s_ljO, s_laO, q_get, q_p1, q_p2, s_n2i, s_n2r, s_n2l, s_n2n, q_pad, q_ar, s_ob, s_obO, q_nth, s_ri, s_riO, s_rb, s_rbO, s_rzO, s_rl, s_rlO, s_rq, s_rqO, s_ry, s_ryO, s_dn, s_tl, s_tn, s_ap, s_an, s_ci, s_cr, s_ni, s_n0, s_n1, q_ags, q_cat, List.contains_nil, List.contains_cons, Nat.reduceBEq, Bool.or_false, Bool.false_or, Bool.true_or, Bool.false_eq_true, ↓reduceIte, Nat.le_refl, Nat.zero_le, true_and, and_true, Nat.reduceLeDiff, Nat.reduceAdd, Nat.add_zero, Nat.zero_add, List.length_cons, List.length_nil, List.set_cons_zero, List.set_cons_succ, Nat.reduceLT, s_fi, s_fl, s_fo, s_fa, s_f0, s_f1, s_set, s_ss, lg_cmp_ge, lg_cmp_le, lg_cmp_gt, lg_cmp_lt, lg_cmp_eq, s_brT, s_brF, s_10, w_Ou_readsAxis, r_Ou_readsAxis, l_Ou_readsAxis_0, l_Ou_readsAxis_6, l_Ou_readsAxis_32, l_Ou_readsAxis_33, l_Ou_readsAxis_68, l_Ou_readsAxis_71, l_Ou_readsAxis_77, l_Ou_readsAxis_95, l_Ou_readsAxis_106, l_Ou_readsAxis_118, l_Ou_readsAxis_132, l_Ou_readsAxis_133, kc_0, f_4_50, f_4_18, kc_1, f_4_29, ml_4_112, w_Cu_u8, ml_4_78, w_Cu_u16, ml_4_115, w_Ou_isCoordinate, f_4_86]
    by_cases he : BT v eb
    · simp only [if_pos he] at k
      rw [q_z_t he]
      refine ⟨fun y => absurd y (by decide), fun _ => ?_⟩
      rw [show iI z + nI v2 = iI (z + (v2 : Int)) from iI_add z v2]
      rcases R2 with ⟨y1, y2, y3, y4⟩ | ⟨y1, y2, y3, y4⟩
      · subst y2
        refine k h2 _ p2 r2 t2 C2 (Or.inl ⟨?_, y4⟩) (by omega) ⟨by omega, by omega⟩ _ _
        rw [if_pos y1, y3]
      · subst y2
        refine k h2 _ p2 r2 t2 C2 (Or.inr ⟨?_, y4⟩) (by omega) ⟨by omega, by omega⟩ _ _
        rw [if_neg (by omega)]
    · simp only [if_neg he] at k
      rw [q_z_f he]
      refine ⟨fun _ => ?_, fun y => absurd rfl y⟩
      rw [show iI z + -nI v2 = iI (z + -(v2 : Int)) by rw [← iI_nat, iI_neg, iI_add]]
      rcases R2 with ⟨y1, y2, y3, y4⟩ | ⟨y1, y2, y3, y4⟩
      · subst y2
        refine k h2 _ p2 r2 t2 C2 (Or.inl ⟨?_, y4⟩) (by omega) ⟨by omega, by omega⟩ _ _
        rw [if_pos y1, y3]
      · subst y2
        refine k h2 _ p2 r2 t2 C2 (Or.inr ⟨?_, y4⟩) (by omega) ⟨by omega, by omega⟩ _ _
        rw [if_neg (by omega)]
