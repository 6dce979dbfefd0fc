/-! Outline: coordinates, flags -/
def e_Ou (u : Nat) (pts cts prd wg : Int32) : q_E := .inr (4, [.ref (u + 1), .ref (u + 2), .ref (u + 3), .ref (u + 4), .ref (u + 5), .ref (u + 6), .int pts, .int cts, .int prd, .int wg])
def q_co (z : Int) : Prop := -16384 ≤ z ∧ z ≤ 16383
theorem iI_lt {a b : Int} (ha : -2147483648 ≤ a ∧ a < 2147483648) (hb : -2147483648 ≤ b ∧ b < 2147483648) : iI a < iI b ↔ a < b := by
  rw [Int32.lt_iff_toInt_lt, iI_toInt ha.1 ha.2, iI_toInt hb.1 hb.2]
theorem iI_le {a b : Int} (ha : -2147483648 ≤ a ∧ a < 2147483648) (hb : -2147483648 ≤ b ∧ b < 2147483648) : iI a ≤ iI b ↔ a ≤ b := by
  rw [Int32.le_iff_toInt_le, iI_toInt ha.1 ha.2, iI_toInt hb.1 hb.2]
set_option maxRecDepth 100000 in
set_option maxHeartbeats 4000000 in
theorem c_Ou_isCoordinate {G : q_G} {l : Launch} {d u n : Nat} {z : Int} {h : q_H} {Q : q_P} (hz : -2147483648 ≤ z ∧ z < 2147483648) (q1 : q_co z → Q (some (.int 1)) h n) (q0 : ¬ q_co z → Q (some (.int 0)) h n) : q_Call G l M_Ou_isCoordinate d 0 0 [.ref u, .int (iI z)] h n Q := by
  refine q_in u_Ou_isCoordinate (by rw [L_Ou_isCoordinate]; exact Nat.le_of_ble_eq_true rfl) ?_
  rw [L_Ou_isCoordinate]
  refine q_at o_Ou_isCoordinate [] 20 l_Ou_isCoordinate_0 ?_
  simp -implicitDefEqProofs only [s_go, s_nil, s_cons, q_ins, s_op, s_i, s_j, s_a, s_v, s_li, s_lj, s_la, s_liO, s_ljO, s_laO, q_get, q_p1, q_p2, s_n2i, s_n2r, s_n2l, s_n2n, q_pad, q_ar, s_ob, s_obO, q_nth, s_ri, s_riO, s_rb, s_rbO, s_rzO, s_rl, s_rlO, s_rq, s_rqO, s_ry, s_ryO, s_dn, s_tl, s_tn, s_ap, s_an, s_ci, s_cr, s_ni, s_n0, s_n1, q_ags, q_cat, List.contains_nil, List.contains_cons, Nat.reduceBEq, Bool.or_false, Bool.false_or, Bool.true_or, Bool.false_eq_true, ↓reduceIte, Nat.le_refl, Nat.zero_le, true_and, and_true, Nat.reduceLeDiff, Nat.reduceAdd, Nat.add_zero, Nat.zero_add, List.length_cons, List.length_nil, List.set_cons_zero, List.set_cons_succ, Nat.reduceLT, s_fi, s_fl, s_fo, s_fa, s_f0, s_f1, s_set, s_ss, lg_cmp_ge, lg_cmp_le, lg_cmp_gt, lg_cmp_lt, lg_cmp_eq, s_brT, s_brF, s_10, w_Ou_isCoordinate, r_Ou_isCoordinate, l_Ou_isCoordinate_0, l_Ou_isCoordinate_18, l_Ou_isCoordinate_19, ks_m16384, ks_16383, kc_1, kc_0]
  rw [show (-16384 : Int32) = iI (-16384) from rfl, show (16383 : Int32) = iI 16383 from rfl, iI_lt hz (by omega), iI_lt (by omega) hz]
  exact ⟨fun c => q0 (fun y => by have := y.1; omega), fun c => ⟨fun c1 => q0 (fun y => by have := y.2; omega), fun c1 => q1 ⟨by omega, by omega⟩⟩⟩
/-- the flags: after i points: how often the last flag holds on, the flag, the place -/
def FS (F : Nat → Nat) (e p0 : Nat) : Nat → Option (Nat × Nat × Nat)
  | 0 => some (0, 0, p0)
  | i + 1 => match FS F e p0 i with
    | none => none
    | some (ag + 1, fl, p) => some (ag, fl, p)
    | some (0, _, p) => if p + 1 ≤ e then (if BT (F p) 3 then (if p + 2 ≤ e then some (F (p + 1), F p, p + 2) else none) else some (0, F p, p + 1)) else none
/-- the flag of point i -/
def FL (F : Nat → Nat) (e p0 i : Nat) : Nat := match FS F e p0 (i + 1) with
  | some (_, fl, _) => fl
  | none => 0
theorem FS_none {F : Nat → Nat} {e p0 i : Nat} (h : FS F e p0 i = none) : ∀ r, FS F e p0 (i + r) = none
  | 0 => h
  | r + 1 => by
    show FS F e p0 (i + r + 1) = none
    unfold FS
    rw [FS_none h r]
theorem FS_b {F : Nat → Nat} (hF : ∀ j, F j < 256) {e p0 : Nat} (hp : p0 ≤ e) : ∀ i ag fl p, FS F e p0 i = some (ag, fl, p) → ag < 256 ∧ fl < 256 ∧ p ≤ e
  | 0, ag, fl, p, h => by cases h; omega
  | i + 1, ag, fl, p, h => by
    unfold FS at h
    cases hi : FS F e p0 i with
    | none => rw [hi] at h; cases h
    | some x =>
      obtain ⟨a, b, c⟩ := x
      rw [hi] at h
      have ih := FS_b hF hp i a b c hi
      cases a with
      | succ a => dsimp only at h; cases h; omega
      | zero =>
        dsimp only at h
        have f1 := hF c
        have f2 := hF (c + 1)
        split at h
        · split at h
          · split at h
            · cases h; omega
            · cases h
          · cases h; omega
        · cases h
/-- an array of 512 ints -/
def q_ar5 (h : q_H) (a : Nat) (g : Nat → Int32) : Prop := h a = some (.inl (0, 512, .inl g))
-- once it ran out: the loop comes to its end, and answers no
set_option maxRecDepth 100000 in
set_option maxHeartbeats 4000000 in
theorem y_Ou_readsFlags {G : q_G} {l : Launch} {d u f row m n sz pts e : Nat} {cts prd wg x1 : Int32} {g : Nat → Int32} {F : Nat → Nat} {Q : q_P} (hs : e ≤ sz) (hpts : pts ≤ 512) {h : q_H} (hu5 : u + 5 ≠ f ∧ u + 5 ≠ row ∧ u + 3 ≠ f ∧ u + 3 ≠ row) (hB : q_By h f row m g sz F) (hO : h u = some (e_Ou u (nI pts) cts prd wg))
    (q0 : ∀ h' g' p', q_2 h h' (u + 3) (u + 5) → q_ar5 h' (u + 3) g' → q_Cu h' (u + 5) f p' e 1 → Q (some (.int 0)) h' n) :
    ∀ (r i fl ag : Nat) (h' : q_H) (gf : Nat → Int32) (p : Nat), i + r = pts → p ≤ e → fl < 256 → ag < 256 → q_2 h h' (u + 3) (u + 5) → q_ar5 h' (u + 3) gf → q_Cu h' (u + 5) f p e 1 → q_Z G l M_Ou_readsFlags (d + 1) 0 0 Q 7 [some (.ref u), some (.int x1), some (.int (nI fl)), some (.int (nI ag)), some (.int (nI i))] [] h' n 0 0 := by
  have hF := hB.2.2.2.2.2.2
  intro r
  induction r with
  | zero =>
    intro i fl ag h' gf p hi hp hfl hag f1 A1 C1
    have O1 : h' u = _ := (f1 u (by omega) (by omega)).trans hO
    unfold e_Ou at O1
    have C1' : h' (u + 5) = some (.inr (2, [.ref f, .int (nI p), .int (nI e), .int 1])) := C1
    refine q_at o_Ou_readsFlags [7] 20 l_Ou_readsFlags_7 ?_
    simp -implicitDefEqProofs only [s_go, s_nil, s_cons, q_ins, s_op, s_i, s_j, s_a, s_v, s_li, s_lj, s_la, s_liO, s_ljO, s_laO, q_get, q_p1, q_p2, s_n2i, s_n2r, s_n2l, s_n2n, q_pad, q_ar, s_ob, s_obO, q_nth, s_ri, s_riO, s_rb, s_rbO, s_rzO, s_rl, s_rlO, s_rq, s_rqO, s_ry, s_ryO, s_dn, s_tl, s_tn, s_ap, s_an, s_ci, s_cr, s_ni, s_n0, s_n1, q_ags, q_cat, List.contains_nil, List.contains_cons, Nat.reduceBEq, Bool.or_false, Bool.false_or, Bool.true_or, Bool.false_eq_true, ↓reduceIte, Nat.le_refl, Nat.zero_le, true_and, and_true, Nat.reduceLeDiff, Nat.reduceAdd, Nat.add_zero, Nat.zero_add, List.length_cons, List.length_nil, List.set_cons_zero, List.set_cons_succ, Nat.reduceLT, s_fi, s_fl, s_fo, s_fa, s_f0, s_f1, s_set, s_ss, lg_cmp_ge, lg_cmp_le, lg_cmp_gt, lg_cmp_lt, lg_cmp_eq, s_brT, s_brF, s_10, w_Ou_readsFlags, r_Ou_readsFlags, l_Ou_readsFlags_0, l_Ou_readsFlags_7, l_Ou_readsFlags_26, l_Ou_readsFlags_51, l_Ou_readsFlags_52, l_Ou_readsFlags_53, l_Ou_readsFlags_67, l_Ou_readsFlags_85, l_Ou_readsFlags_86, kc_0, f_4_50, kc_m1, f_4_29, ml_4_112, w_Cu_u8, kb_8, f_4_18, kc_1, f_4_86, O1, C1']
    exact ⟨fun _ => ⟨fun _ => q0 h' gf p f1 A1 C1, fun _ => q0 h' gf p f1 A1 C1⟩, fun c => absurd (nI_le (by omega) (by omega)) c⟩
  | succ r ih =>
    intro i fl ag h' gf p hi hp hfl hag f1 A1 C1
    have O1 : h' u = _ := (f1 u (by omega) (by omega)).trans hO
    unfold e_Ou at O1
    have C1' : h' (u + 5) = some (.inr (2, [.ref f, .int (nI p), .int (nI e), .int 1])) := C1
    have A1' : h' (u + 3) = some (.inl (0, 512, .inl gf)) := A1
    have B1 : q_By h' f row m g sz F := hB.mv (f1 f (by omega) (by omega)) (f1 row (by omega) (by omega))
    refine q_at o_Ou_readsFlags [7, 53] 20 l_Ou_readsFlags_7 ?_
    simp -implicitDefEqProofs only [s_go, s_nil, s_cons, q_ins, s_op, s_i, s_j, s_a, s_v, s_li, s_lj, s_la, s_liO, s_ljO, s_laO, q_get, q_p1, q_p2, s_n2i, s_n2r, s_n2l, s_n2n, q_pad, q_ar, s_ob, s_obO, q_nth, s_ri, s_riO, s_rb, s_rbO, s_rzO, s_rl, s_rlO, s_rq, s_rqO, s_ry, s_ryO, s_dn, s_tl, s_tn, s_ap, s_an, s_ci, s_cr, s_ni, s_n0, s_n1, q_ags, q_cat, List.contains_nil, List.contains_cons, Nat.reduceBEq, Bool.or_false, Bool.false_or, Bool.true_or, Bool.false_eq_true, ↓reduceIte, Nat.le_refl, Nat.zero_le, true_and, and_true, Nat.reduceLeDiff, Nat.reduceAdd, Nat.add_zero, Nat.zero_add, List.length_cons, List.length_nil, List.set_cons_zero, List.set_cons_succ, Nat.reduceLT, s_fi, s_fl, s_fo, s_fa, s_f0, s_f1, s_set, s_ss, lg_cmp_ge, lg_cmp_le, lg_cmp_gt, lg_cmp_lt, lg_cmp_eq, s_brT, s_brF, s_10, w_Ou_readsFlags, r_Ou_readsFlags, l_Ou_readsFlags_0, l_Ou_readsFlags_7, l_Ou_readsFlags_26, l_Ou_readsFlags_51, l_Ou_readsFlags_52, l_Ou_readsFlags_53, l_Ou_readsFlags_67, l_Ou_readsFlags_85, l_Ou_readsFlags_86, kc_0, f_4_50, kc_m1, f_4_29, ml_4_112, w_Cu_u8, kb_8, f_4_18, kc_1, f_4_86, O1, C1', A1']
    refine ⟨fun c => absurd ((nI_leI (by omega) (by omega)).mp c) (by omega), fun _ => ?_⟩
    -- from 53 on
    have fin : ∀ (h2 : q_H) (fl2 ag2 p2 : Nat), p2 ≤ e → fl2 < 256 → ag2 < 256 → q_2 h h2 (u + 3) (u + 5) → q_ar5 h2 (u + 3) gf → q_Cu h2 (u + 5) f p2 e 1 → q_Z G l M_Ou_readsFlags (d + 1) 0 0 Q 53 [some (.ref u), some (.int x1), some (.int (nI fl2)), some (.int (nI ag2)), some (.int (nI i))] [] h2 n 0 0 := by
      intro h2 fl2 ag2 p2 b1 b2 b3 f2 A2 C2
      have O2 : h2 u = _ := (f2 u (by omega) (by omega)).trans hO
      unfold e_Ou at O2
      have A2' : h2 (u + 3) = some (.inl (0, 512, .inl gf)) := A2
      refine q_at o_Ou_readsFlags [7] 20 l_Ou_readsFlags_53 ?_
      simp -implicitDefEqProofs only [s_go, s_nil, s_cons, q_ins, s_op, s_i, s_j, s_a, s_v, s_li, s_lj, s_la, s_liO, s_ljO, s_laO, q_get, q_p1, q_p2, s_n2i, s_n2r, s_n2l, s_n2n, q_pad, q_ar, s_ob, s_obO, q_nth, s_ri, s_riO, s_rb, s_rbO, s_rzO, s_rl, s_rlO, s_rq, s_rqO, s_ry, s_ryO, s_dn, s_tl, s_tn, s_ap, s_an, s_ci, s_cr, s_ni, s_n0, s_n1, q_ags, q_cat, List.contains_nil, List.contains_cons, Nat.reduceBEq, Bool.or_false, Bool.false_or, Bool.true_or, Bool.false_eq_true, ↓reduceIte, Nat.le_refl, Nat.zero_le, true_and, and_true, Nat.reduceLeDiff, Nat.reduceAdd, Nat.add_zero, Nat.zero_add, List.length_cons, List.length_nil, List.set_cons_zero, List.set_cons_succ, Nat.reduceLT, s_fi, s_fl, s_fo, s_fa, s_f0, s_f1, s_set, s_ss, lg_cmp_ge, lg_cmp_le, lg_cmp_gt, lg_cmp_lt, lg_cmp_eq, s_brT, s_brF, s_10, w_Ou_readsFlags, r_Ou_readsFlags, l_Ou_readsFlags_0, l_Ou_readsFlags_7, l_Ou_readsFlags_26, l_Ou_readsFlags_51, l_Ou_readsFlags_52, l_Ou_readsFlags_53, l_Ou_readsFlags_67, l_Ou_readsFlags_85, l_Ou_readsFlags_86, kc_0, f_4_50, kc_m1, f_4_29, ml_4_112, w_Cu_u8, kb_8, f_4_18, kc_1, f_4_86, O2, A2', nI_1]
      refine ⟨vp_in_nI (by omega) (by omega), ?_⟩
      refine ih (i + 1) fl2 ag2 _ _ p2 (by omega) b1 b2 b3 (fun b c1 c2 => by rw [s_ne _ _ c1]; exact f2 b c1 c2) (s_set _ _ _) ?_
      unfold q_Cu
      rw [s_ne _ _ (by omega)]
      exact C2
    refine ⟨fun c => ?_, fun c => ?_⟩
    · refine q_c0 (Nat.le_refl _) (Nat.le_refl _) ?_
      refine c_Cu_u8X C1 B1 hs hp (fun h2 v p2 r2 t2 C2 R2 => ?_)
      have t2' : q_2 h h2 (u + 3) (u + 5) := fun b c1 c2 => (t2 b c2).trans (f1 b c1 c2)
      have hv : v < 256 := by have := hF p; omega
      have hr2 : r2 = 1 := by rcases R2 with ⟨-, -, -, z⟩ | ⟨-, -, -, z⟩ <;> exact z
      subst hr2
      have A2 : q_ar5 h2 (u + 3) gf := (t2 _ (by omega)).trans A1
      have O2 : h2 u = _ := (t2' u (by omega) (by omega)).trans hO
      unfold e_Ou at O2
      have C2' : h2 (u + 5) = some (.inr (2, [.ref f, .int (nI p2), .int (nI e), .int 1])) := C2
      simp -implicitDefEqProofs only [s_go, s_nil, s_cons, q_ins, s_op, s_i, s_j, s_a, s_v, s_li, s_lj, s_la, s_liO, s_ljO, s_laO, q_get, q_p1, q_p2, s_n2i, s_n2r, s_n2l, s_n2n, q_pad, q_ar, s_ob, s_obO, q_nth, s_ri, s_riO, s_rb, s_rbO, s_rzO, s_rl, s_rlO, s_rq, s_rqO, s_ry, s_ryO, s_dn, s_tl, s_tn, s_ap, s_an, s_ci, s_cr, s_ni, s_n0, s_n1, q_ags, q_cat, List.contains_nil, List.contains_cons, Nat.reduceBEq, Bool.or_false, Bool.false_or, Bool.true_or, Bool.false_eq_true, ↓reduceIte, Nat.le_refl, Nat.zero_le, true_and, and_true, Nat.reduceLeDiff, Nat.reduceAdd, Nat.add_zero, Nat.zero_add, List.length_cons, List.length_nil, List.set_cons_zero, List.set_cons_succ, Nat.reduceLT, s_fi, s_fl, s_fo, s_fa, s_f0, s_f1, s_set, s_ss, lg_cmp_ge, lg_cmp_le, lg_cmp_gt, lg_cmp_lt, lg_cmp_eq, s_brT, s_brF, s_10, w_Ou_readsFlags, r_Ou_readsFlags, l_Ou_readsFlags_0, l_Ou_readsFlags_7, l_Ou_readsFlags_26, l_Ou_readsFlags_51, l_Ou_readsFlags_52, l_Ou_readsFlags_53, l_Ou_readsFlags_67, l_Ou_readsFlags_85, l_Ou_readsFlags_86, kc_0, f_4_50, kc_m1, f_4_29, ml_4_112, w_Cu_u8, kb_8, f_4_18, kc_1, f_4_86, O2, C2']
      refine ⟨fun c1 => ?_, fun c1 => ?_⟩
      · exact fin h2 v 0 p2 (by omega) hv (by omega) t2' A2 C2
      · refine q_c0 (Nat.le_refl _) (Nat.le_refl _) ?_
        have B2 : q_By h2 f row m g sz F := hB.mv (t2' f (by omega) (by omega)) (t2' row (by omega) (by omega))
        refine c_Cu_u8X C2 B2 hs (by omega) (fun h3 v3 p3 r3 t3 C3 R3 => ?_)
        have hr3 : r3 = 1 := by rcases R3 with ⟨-, -, -, z⟩ | ⟨-, -, -, z⟩ <;> exact z
        subst hr3
        simp -implicitDefEqProofs only [s_go, s_nil, s_cons, q_ins, s_op, s_i, s_j, s_a, s_v, s_li, s_lj, s_la, s_liO, s_ljO, s_laO, q_get, q_p1, q_p2, s_n2i, s_n2r, s_n2l, s_n2n, q_pad, q_ar, s_ob, s_obO, q_nth, s_ri, s_riO, s_rb, s_rbO, s_rzO, s_rl, s_rlO, s_rq, s_rqO, s_ry, s_ryO, s_dn, s_tl, s_tn, s_ap, s_an, s_ci, s_cr, s_ni, s_n0, s_n1, q_ags, q_cat, List.contains_nil, List.contains_cons, Nat.reduceBEq, Bool.or_false, Bool.false_or, Bool.true_or, Bool.false_eq_true, ↓reduceIte, Nat.le_refl, Nat.zero_le, true_and, and_true, Nat.reduceLeDiff, Nat.reduceAdd, Nat.add_zero, Nat.zero_add, List.length_cons, List.length_nil, List.set_cons_zero, List.set_cons_succ, Nat.reduceLT, s_fi, s_fl, s_fo, s_fa, s_f0, s_f1, s_set, s_ss, lg_cmp_ge, lg_cmp_le, lg_cmp_gt, lg_cmp_lt, lg_cmp_eq, s_brT, s_brF, s_10, w_Ou_readsFlags, r_Ou_readsFlags, l_Ou_readsFlags_0, l_Ou_readsFlags_7, l_Ou_readsFlags_26, l_Ou_readsFlags_51, l_Ou_readsFlags_52, l_Ou_readsFlags_53, l_Ou_readsFlags_67, l_Ou_readsFlags_85, l_Ou_readsFlags_86, kc_0, f_4_50, kc_m1, f_4_29, ml_4_112, w_Cu_u8, kb_8, f_4_18, kc_1, f_4_86]
        have hv3 : v3 < 256 := by have := hF p2; omega
        exact fin h3 v v3 p3 (by omega) hv hv3 (fun b c1 c2 => (t3 b c2).trans (t2' b c1 c2)) ((t3 _ (by omega)).trans A2) C3
    · have hag0 : 0 < ag := by
        rcases Nat.eq_zero_or_pos ag with y | y
        · rw [y] at c; exact absurd (show nI 0 ≤ 0 from by decide) c
        · exact y
      rw [show nI ag + -1 = nI (ag - 1) from sb_m1 hag0]
      exact fin h' fl (ag - 1) p hp hfl (by omega) f1 A1 C1
theorem FS_succ (F : Nat → Nat) (e p0 i : Nat) : FS F e p0 (i + 1) = match FS F e p0 i with
    | none => none
    | some (ag + 1, fl, p) => some (ag, fl, p)
    | some (0, _, p) => if p + 1 ≤ e then (if BT (F p) 3 then (if p + 2 ≤ e then some (F (p + 1), F p, p + 2) else none) else some (0, F p, p + 1)) else none := rfl
/-- the flags are read: first .. pts of the array; nothing else of it has changed -/
def FLs (F : Nat → Nat) (e p0 first k : Nat) (g0 g : Nat → Int32) : Prop := (∀ j, j < k → g (first + j) = nI (FL F e p0 j)) ∧ ∀ j, (j < first ∨ first + k ≤ j) → g j = g0 j
theorem q_bit3 {v : Nat} (hv : v < 256) : (nI v &&& 8 = 0) = ¬ BT v 3 := propext (q_bit (k := 3) (by omega) (by omega))
set_option maxRecDepth 100000 in
set_option maxHeartbeats 4000000 in
theorem z_Ou_readsFlags {G : q_G} {l : Launch} {d u f row m n sz pts e p0 first : Nat} {cts prd wg x1 : Int32} {g g0 : Nat → Int32} {F : Nat → Nat} {Q : q_P} (hs : e ≤ sz) (hpts : pts ≤ 512) (hp0 : p0 ≤ e) (hfi : first ≤ pts) {h : q_H} (hu5 : u + 5 ≠ f ∧ u + 5 ≠ row ∧ u + 3 ≠ f ∧ u + 3 ≠ row) (hB : q_By h f row m g sz F) (hO : h u = some (e_Ou u (nI pts) cts prd wg))
    (q1 : ∀ fl p', FS F e p0 (pts - first) = some (0, fl, p') → ∀ h' g', q_2 h h' (u + 3) (u + 5) → q_ar5 h' (u + 3) g' → FLs F e p0 first (pts - first) g0 g' → q_Cu h' (u + 5) f p' e 0 → Q (some (.int 1)) h' n)
    (q0 : (∀ fl p', FS F e p0 (pts - first) ≠ some (0, fl, p')) → ∀ h' g' p' ro, (ro = 0 ∨ ro = 1) → q_2 h h' (u + 3) (u + 5) → q_ar5 h' (u + 3) g' → q_Cu h' (u + 5) f p' e ro → Q (some (.int 0)) h' n) :
    ∀ (r i fl ag p : Nat) (h' : q_H) (gf : Nat → Int32), first + i + r = pts → FS F e p0 i = some (ag, fl, p) → q_2 h h' (u + 3) (u + 5) → q_ar5 h' (u + 3) gf → FLs F e p0 first i g0 gf → q_Cu h' (u + 5) f p e 0 → q_Z G l M_Ou_readsFlags (d + 1) 0 0 Q 7 [some (.ref u), some (.int x1), some (.int (nI fl)), some (.int (nI ag)), some (.int (nI (first + i)))] [] h' n 0 0 := by
  have hF := hB.2.2.2.2.2.2
  intro r
  induction r with
  | zero =>
    intro i fl ag p h' gf hi hfs f1 A1 L1 C1
    have hb := FS_b hF hp0 i ag fl p hfs
    have O1 : h' u = _ := (f1 u (by omega) (by omega)).trans hO
    unfold e_Ou at O1
    have C1' : h' (u + 5) = some (.inr (2, [.ref f, .int (nI p), .int (nI e), .int 0])) := C1
    have hi' : pts - first = i := by omega
    refine q_at o_Ou_readsFlags [7] 20 l_Ou_readsFlags_7 ?_
    simp -implicitDefEqProofs only [s_go, s_nil, s_cons, q_ins, s_op, s_i, s_j, s_a, s_v, s_li, s_lj, s_la, s_liO, s_ljO, s_laO, q_get, q_p1, q_p2, s_n2i, s_n2r, s_n2l, s_n2n, q_pad, q_ar, s_ob, s_obO, q_nth, s_ri, s_riO, s_rb, s_rbO, s_rzO, s_rl, s_rlO, s_rq, s_rqO, s_ry, s_ryO, s_dn, s_tl, s_tn, s_ap, s_an, s_ci, s_cr, s_ni, s_n0, s_n1, q_ags, q_cat, List.contains_nil, List.contains_cons, Nat.reduceBEq, Bool.or_false, Bool.false_or, Bool.true_or, Bool.false_eq_true, ↓reduceIte, Nat.le_refl, Nat.zero_le, true_and, and_true, Nat.reduceLeDiff, Nat.reduceAdd, Nat.add_zero, Nat.zero_add, List.length_cons, List.length_nil, List.set_cons_zero, List.set_cons_succ, Nat.reduceLT, s_fi, s_fl, s_fo, s_fa, s_f0, s_f1, s_set, s_ss, lg_cmp_ge, lg_cmp_le, lg_cmp_gt, lg_cmp_lt, lg_cmp_eq, s_brT, s_brF, s_10, w_Ou_readsFlags, r_Ou_readsFlags, l_Ou_readsFlags_0, l_Ou_readsFlags_7, l_Ou_readsFlags_26, l_Ou_readsFlags_51, l_Ou_readsFlags_52, l_Ou_readsFlags_53, l_Ou_readsFlags_67, l_Ou_readsFlags_85, l_Ou_readsFlags_86, kc_0, f_4_50, kc_m1, f_4_29, ml_4_112, w_Cu_u8, kb_8, f_4_18, kc_1, f_4_86, O1, C1']
    refine ⟨fun _ => ?_, fun c => absurd (nI_le (by omega) (by omega)) c⟩
    rw [show (nI ag = (0 : Int32)) = (ag = 0) from propext (nI_eq (b := 0) (by omega) (by omega))]
    refine ⟨fun y => ?_, fun y => ?_⟩
    · subst y
      exact q1 fl p (by rw [hi']; exact hfs) h' gf f1 A1 (by rw [hi']; exact L1) C1
    · exact q0 (fun fl' p' z => by rw [hi', hfs] at z; cases z; exact y rfl) h' gf p 0 (Or.inl rfl) f1 A1 C1
  | succ r ih =>
    intro i fl ag p h' gf hi hfs f1 A1 L1 C1
    have hb := FS_b hF hp0 i ag fl p hfs
    have O1 : h' u = _ := (f1 u (by omega) (by omega)).trans hO
    unfold e_Ou at O1
    have C1' : h' (u + 5) = some (.inr (2, [.ref f, .int (nI p), .int (nI e), .int 0])) := C1
    have A1' : h' (u + 3) = some (.inl (0, 512, .inl gf)) := A1
    have B1 : q_By h' f row m g sz F := hB.mv (f1 f (by omega) (by omega)) (f1 row (by omega) (by omega))
    have hsu := FS_succ F e p0 i
    rw [hfs] at hsu
    refine q_at o_Ou_readsFlags [7, 53] 20 l_Ou_readsFlags_7 ?_
    simp -implicitDefEqProofs only [s_go, s_nil, s_cons, q_ins, s_op, s_i, s_j, s_a, s_v, s_li, s_lj, s_la, s_liO, s_ljO, s_laO, q_get, q_p1, q_p2, s_n2i, s_n2r, s_n2l, s_n2n, q_pad, q_ar, s_ob, s_obO, q_nth, s_ri, s_riO, s_rb, s_rbO, s_rzO, s_rl, s_rlO, s_rq, s_rqO, s_ry, s_ryO, s_dn, s_tl, s_tn, s_ap, s_an, s_ci, s_cr, s_ni, s_n0, s_n1, q_ags, q_cat, List.contains_nil, List.contains_cons, Nat.reduceBEq, Bool.or_false, Bool.false_or, Bool.true_or, Bool.false_eq_true, ↓reduceIte, Nat.le_refl, Nat.zero_le, true_and, and_true, Nat.reduceLeDiff, Nat.reduceAdd, Nat.add_zero, Nat.zero_add, List.length_cons, List.length_nil, List.set_cons_zero, List.set_cons_succ, Nat.reduceLT, s_fi, s_fl, s_fo, s_fa, s_f0, s_f1, s_set, s_ss, lg_cmp_ge, lg_cmp_le, lg_cmp_gt, lg_cmp_lt, lg_cmp_eq, s_brT, s_brF, s_10, w_Ou_readsFlags, r_Ou_readsFlags, l_Ou_readsFlags_0, l_Ou_readsFlags_7, l_Ou_readsFlags_26, l_Ou_readsFlags_51, l_Ou_readsFlags_52, l_Ou_readsFlags_53, l_Ou_readsFlags_67, l_Ou_readsFlags_85, l_Ou_readsFlags_86, kc_0, f_4_50, kc_m1, f_4_29, ml_4_112, w_Cu_u8, kb_8, f_4_18, kc_1, f_4_86, O1, C1', A1']
    refine ⟨fun c => absurd ((nI_leI (by omega) (by omega)).mp c) (by omega), fun _ => ?_⟩
    have fin : ∀ (h2 : q_H) (fl2 ag2 p2 : Nat), FS F e p0 (i + 1) = some (ag2, fl2, p2) → q_2 h h2 (u + 3) (u + 5) → q_ar5 h2 (u + 3) gf → q_Cu h2 (u + 5) f p2 e 0 → q_Z G l M_Ou_readsFlags (d + 1) 0 0 Q 53 [some (.ref u), some (.int x1), some (.int (nI fl2)), some (.int (nI ag2)), some (.int (nI (first + i)))] [] h2 n 0 0 := by
      intro h2 fl2 ag2 p2 b1 f2 A2 C2
      have O2 : h2 u = _ := (f2 u (by omega) (by omega)).trans hO
      unfold e_Ou at O2
      have A2' : h2 (u + 3) = some (.inl (0, 512, .inl gf)) := A2
      refine q_at o_Ou_readsFlags [7] 20 l_Ou_readsFlags_53 ?_
      simp -implicitDefEqProofs only [s_go, s_nil, s_cons, q_ins, s_op, s_i, s_j, s_a, s_v, s_li, s_lj, s_la, s_liO, s_ljO, s_laO, q_get, q_p1, q_p2, s_n2i, s_n2r, s_n2l, s_n2n, q_pad, q_ar, s_ob, s_obO, q_nth, s_ri, s_riO, s_rb, s_rbO, s_rzO, s_rl, s_rlO, s_rq, s_rqO, s_ry, s_ryO, s_dn, s_tl, s_tn, s_ap, s_an, s_ci, s_cr, s_ni, s_n0, s_n1, q_ags, q_cat, List.contains_nil, List.contains_cons, Nat.reduceBEq, Bool.or_false, Bool.false_or, Bool.true_or, Bool.false_eq_true, ↓reduceIte, Nat.le_refl, Nat.zero_le, true_and, and_true, Nat.reduceLeDiff, Nat.reduceAdd, Nat.add_zero, Nat.zero_add, List.length_cons, List.length_nil, List.set_cons_zero, List.set_cons_succ, Nat.reduceLT, s_fi, s_fl, s_fo, s_fa, s_f0, s_f1, s_set, s_ss, lg_cmp_ge, lg_cmp_le, lg_cmp_gt, lg_cmp_lt, lg_cmp_eq, s_brT, s_brF, s_10, w_Ou_readsFlags, r_Ou_readsFlags, l_Ou_readsFlags_0, l_Ou_readsFlags_7, l_Ou_readsFlags_26, l_Ou_readsFlags_51, l_Ou_readsFlags_52, l_Ou_readsFlags_53, l_Ou_readsFlags_67, l_Ou_readsFlags_85, l_Ou_readsFlags_86, kc_0, f_4_50, kc_m1, f_4_29, ml_4_112, w_Cu_u8, kb_8, f_4_18, kc_1, f_4_86, O2, A2', nI_1]
      refine ⟨vp_in_nI (by omega) (by omega), ?_⟩
      rw [nI_clamp (by omega)]
      refine ih (i + 1) fl2 ag2 p2 _ _ (by omega) b1 (fun b c1 c2 => by rw [s_ne _ _ c1]; exact f2 b c1 c2) (s_set _ _ _) ⟨fun j hj => ?_, fun j hj => ?_⟩ ?_
      · rcases Nat.lt_or_ge j i with y | y
        · rw [pk_un (by omega)]; exact L1.1 j y
        · have : j = i := by omega
          subst this
          rw [pk_us]
          unfold FL
          rw [b1]
      · rw [pk_un (by omega)]; exact L1.2 j (by omega)
      · unfold q_Cu
        rw [s_ne _ _ (by omega)]
        exact C2
    have bad : FS F e p0 (i + 1) = none → ∀ fl' p', FS F e p0 (pts - first) ≠ some (0, fl', p') := by
      intro z fl' p' y
      have := FS_none z (pts - first - (i + 1))
      rw [show i + 1 + (pts - first - (i + 1)) = pts - first by omega, y] at this
      cases this
    have junk : (∀ fl' p', FS F e p0 (pts - first) ≠ some (0, fl', p')) → ∀ (h2 : q_H) (fl2 ag2 p2 : Nat), p2 ≤ e → fl2 < 256 → ag2 < 256 → q_2 h h2 (u + 3) (u + 5) → q_ar5 h2 (u + 3) gf → q_Cu h2 (u + 5) f p2 e 1 → q_Z G l M_Ou_readsFlags (d + 1) 0 0 Q 53 [some (.ref u), some (.int x1), some (.int (nI fl2)), some (.int (nI ag2)), some (.int (nI (first + i)))] [] h2 n 0 0 := by
      intro z h2 fl2 ag2 p2 b1 b2 b3 f2 A2 C2
      have O2 : h2 u = _ := (f2 u (by omega) (by omega)).trans hO
      unfold e_Ou at O2
      have A2' : h2 (u + 3) = some (.inl (0, 512, .inl gf)) := A2
      refine q_at o_Ou_readsFlags [7] 20 l_Ou_readsFlags_53 ?_
      simp -implicitDefEqProofs only [s_go, s_nil, s_cons, q_ins, s_op, s_i, s_j, s_a, s_v, s_li, s_lj, s_la, s_liO, s_ljO, s_laO, q_get, q_p1, q_p2, s_n2i, s_n2r, s_n2l, s_n2n, q_pad, q_ar, s_ob, s_obO, q_nth, s_ri, s_riO, s_rb, s_rbO, s_rzO, s_rl, s_rlO, s_rq, s_rqO, s_ry, s_ryO, s_dn, s_tl, s_tn, s_ap, s_an, s_ci, s_cr, s_ni, s_n0, s_n1, q_ags, q_cat, List.contains_nil, List.contains_cons, Nat.reduceBEq, Bool.or_false, Bool.false_or, Bool.true_or, Bool.false_eq_true, ↓reduceIte, Nat.le_refl, Nat.zero_le, true_and, and_true, Nat.reduceLeDiff, Nat.reduceAdd, Nat.add_zero, Nat.zero_add, List.length_cons, List.length_nil, List.set_cons_zero, List.set_cons_succ, Nat.reduceLT, s_fi, s_fl, s_fo, s_fa, s_f0, s_f1, s_set, s_ss, lg_cmp_ge, lg_cmp_le, lg_cmp_gt, lg_cmp_lt, lg_cmp_eq, s_brT, s_brF, s_10, w_Ou_readsFlags, r_Ou_readsFlags, l_Ou_readsFlags_0, l_Ou_readsFlags_7, l_Ou_readsFlags_26, l_Ou_readsFlags_51, l_Ou_readsFlags_52, l_Ou_readsFlags_53, l_Ou_readsFlags_67, l_Ou_readsFlags_85, l_Ou_readsFlags_86, kc_0, f_4_50, kc_m1, f_4_29, ml_4_112, w_Cu_u8, kb_8, f_4_18, kc_1, f_4_86, O2, A2', nI_1]
      refine ⟨vp_in_nI (by omega) (by omega), ?_⟩
      refine y_Ou_readsFlags hs hpts hu5 hB hO (fun h3 g3 p3 f3 A3 C3 => q0 z h3 g3 p3 1 (Or.inr rfl) f3 A3 C3) r (first + i + 1) fl2 ag2 _ _ p2 (by omega) b1 b2 b3 (fun b c1 c2 => by rw [s_ne _ _ c1]; exact f2 b c1 c2) (s_set _ _ _) ?_
      unfold q_Cu
      rw [s_ne _ _ (by omega)]
      exact C2
    refine ⟨fun c => ?_, fun c => ?_⟩
    · have hag0 : ag = 0 := by
        have := (nI_leI (b := 0) (by omega) (by omega)).mp c
        omega
      subst hag0
      dsimp only at hsu
      refine q_c0 (Nat.le_refl _) (Nat.le_refl _) ?_
      refine c_Cu_u8X C1 B1 hs hb.2.2 (fun h2 v p2 r2 t2 C2 R2 => ?_)
      have t2' : q_2 h h2 (u + 3) (u + 5) := fun b c1 c2 => (t2 b c2).trans (f1 b c1 c2)
      have hv : v < 256 := by have := hF p; omega
      have A2 : q_ar5 h2 (u + 3) gf := (t2 _ (by omega)).trans A1
      have O2 : h2 u = _ := (t2' u (by omega) (by omega)).trans hO
      unfold e_Ou at O2
      have C2' : h2 (u + 5) = some (.inr (2, [.ref f, .int (nI p2), .int (nI e), .int r2])) := C2
      have B2 : q_By h2 f row m g sz F := hB.mv (t2' f (by omega) (by omega)) (t2' row (by omega) (by omega))
      simp -implicitDefEqProofs only [s_go, s_nil, s_cons, q_ins, s_op, s_i, s_j, s_a, s_v, s_li, s_lj, s_la, s_liO, s_ljO, s_laO, q_get, q_p1, q_p2, s_n2i, s_n2r, s_n2l, s_n2n, q_pad, q_ar, s_ob, s_obO, q_nth, s_ri, s_riO, s_rb, s_rbO, s_rzO, s_rl, s_rlO, s_rq, s_rqO, s_ry, s_ryO, s_dn, s_tl, s_tn, s_ap, s_an, s_ci, s_cr, s_ni, s_n0, s_n1, q_ags, q_cat, List.contains_nil, List.contains_cons, Nat.reduceBEq, Bool.or_false, Bool.false_or, Bool.true_or, Bool.false_eq_true, ↓reduceIte, Nat.le_refl, Nat.zero_le, true_and, and_true, Nat.reduceLeDiff, Nat.reduceAdd, Nat.add_zero, Nat.zero_add, List.length_cons, List.length_nil, List.set_cons_zero, List.set_cons_succ, Nat.reduceLT, s_fi, s_fl, s_fo, s_fa, s_f0, s_f1, s_set, s_ss, lg_cmp_ge, lg_cmp_le, lg_cmp_gt, lg_cmp_lt, lg_cmp_eq, s_brT, s_brF, s_10, w_Ou_readsFlags, r_Ou_readsFlags, l_Ou_readsFlags_0, l_Ou_readsFlags_7, l_Ou_readsFlags_26, l_Ou_readsFlags_51, l_Ou_readsFlags_52, l_Ou_readsFlags_53, l_Ou_readsFlags_67, l_Ou_readsFlags_85, l_Ou_readsFlags_86, kc_0, f_4_50, kc_m1, f_4_29, ml_4_112, w_Cu_u8, kb_8, f_4_18, kc_1, f_4_86, O2, C2', q_bit3 hv]
      refine ⟨fun c1 => ?_, fun c1 => ?_⟩
      · rcases R2 with ⟨y1, y2, y3, y4⟩ | ⟨y1, y2, y3, y4⟩
        · subst y2; subst y3; subst y4
          rw [if_pos y1, if_neg c1] at hsu
          exact fin h2 (F p) 0 (p + 1) hsu t2' A2 C2
        · subst y2; subst y3; subst y4
          rw [if_neg (by omega)] at hsu
          exact junk (bad hsu) h2 0 0 p2 hb.2.2 (by omega) (by omega) t2' A2 C2
      · have c1 := Decidable.not_not.mp c1
        refine q_c0 (Nat.le_refl _) (Nat.le_refl _) ?_
        rcases R2 with ⟨y1, y2, y3, y4⟩ | ⟨y1, y2, y3, y4⟩
        · subst y2; subst y3; subst y4
          rw [if_pos y1, if_pos c1] at hsu
          refine c_Cu_u8X C2 B2 hs y1 (fun h3 v3 p3 r3 t3 C3 R3 => ?_)
          simp -implicitDefEqProofs only [s_go, s_nil, s_cons, q_ins, s_op, s_i, s_j, s_a, s_v, s_li, s_lj, s_la, s_liO, s_ljO, s_laO, q_get, q_p1, q_p2, s_n2i, s_n2r, s_n2l, s_n2n, q_pad, q_ar, s_ob, s_obO, q_nth, s_ri, s_riO, s_rb, s_rbO, s_rzO, s_rl, s_rlO, s_rq, s_rqO, s_ry, s_ryO, s_dn, s_tl, s_tn, s_ap, s_an, s_ci, s_cr, s_ni, s_n0, s_n1, q_ags, q_cat, List.contains_nil, List.contains_cons, Nat.reduceBEq, Bool.or_false, Bool.false_or, Bool.true_or, Bool.false_eq_true, ↓reduceIte, Nat.le_refl, Nat.zero_le, true_and, and_true, Nat.reduceLeDiff, Nat.reduceAdd, Nat.add_zero, Nat.zero_add, List.length_cons, List.length_nil, List.set_cons_zero, List.set_cons_succ, Nat.reduceLT, s_fi, s_fl, s_fo, s_fa, s_f0, s_f1, s_set, s_ss, lg_cmp_ge, lg_cmp_le, lg_cmp_gt, lg_cmp_lt, lg_cmp_eq, s_brT, s_brF, s_10, w_Ou_readsFlags, r_Ou_readsFlags, l_Ou_readsFlags_0, l_Ou_readsFlags_7, l_Ou_readsFlags_26, l_Ou_readsFlags_51, l_Ou_readsFlags_52, l_Ou_readsFlags_53, l_Ou_readsFlags_67, l_Ou_readsFlags_85, l_Ou_readsFlags_86, kc_0, f_4_50, kc_m1, f_4_29, ml_4_112, w_Cu_u8, kb_8, f_4_18, kc_1, f_4_86]
          have t3' : q_2 h h3 (u + 3) (u + 5) := fun b c1 c2 => (t3 b c2).trans (t2' b c1 c2)
          have A3 : q_ar5 h3 (u + 3) gf := (t3 _ (by omega)).trans A2
          rcases R3 with ⟨w1, w2, w3, w4⟩ | ⟨w1, w2, w3, w4⟩
          · subst w2; subst w3; subst w4
            rw [if_pos (by omega)] at hsu
            exact fin h3 (F p) (F (p + 1)) (p + 2) hsu t3' A3 C3
          · subst w2; subst w3; subst w4
            rw [if_neg (by omega)] at hsu
            exact junk (bad hsu) h3 (F p) 0 (p + 1) (by omega) (hF _) (by omega) t3' A3 C3
        · subst y2
          exact absurd c1 (by decide)
    · obtain ⟨ag', rfl⟩ : ∃ a, ag = a + 1 := by
        cases ag with
        | zero => exact absurd (show nI 0 ≤ 0 from by decide) c
        | succ a => exact ⟨a, rfl⟩
      dsimp only at hsu
      rw [show nI (ag' + 1) + -1 = nI ag' from pk_m1 ag']
      exact fin h' fl ag' p hsu f1 A1 C1
set_option maxRecDepth 100000 in
set_option maxHeartbeats 4000000 in
theorem c_Ou_readsFlags {G : q_G} {l : Launch} {d u f row m n sz pts e p0 first : Nat} {cts prd wg : Int32} {g g0 : Nat → Int32} {F : Nat → Nat} {h : q_H} {Q : q_P} (hs : e ≤ sz) (hpts : pts ≤ 512) (hp0 : p0 ≤ e) (hfi : first ≤ pts) (hu5 : u + 5 ≠ f ∧ u + 5 ≠ row ∧ u + 3 ≠ f ∧ u + 3 ≠ row) (hB : q_By h f row m g sz F) (hO : h u = some (e_Ou u (nI pts) cts prd wg)) (hA : q_ar5 h (u + 3) g0) (hC : q_Cu h (u + 5) f p0 e 0)
    (q1 : ∀ fl p', FS F e p0 (pts - first) = some (0, fl, p') → ∀ h' g', q_2 h h' (u + 3) (u + 5) → q_ar5 h' (u + 3) g' → FLs F e p0 first (pts - first) g0 g' → q_Cu h' (u + 5) f p' e 0 → Q (some (.int 1)) h' n)
    (q0 : (∀ fl p', FS F e p0 (pts - first) ≠ some (0, fl, p')) → ∀ h' g' p' ro, (ro = 0 ∨ ro = 1) → q_2 h h' (u + 3) (u + 5) → q_ar5 h' (u + 3) g' → q_Cu h' (u + 5) f p' e ro → Q (some (.int 0)) h' n) : q_Call G l M_Ou_readsFlags (d + 1) 0 0 [.ref u, .int (nI first)] h n Q := by
  refine q_in u_Ou_readsFlags (by rw [L_Ou_readsFlags]; exact Nat.le_of_ble_eq_true rfl) ?_
  rw [L_Ou_readsFlags]
  refine q_at o_Ou_readsFlags [7] 20 l_Ou_readsFlags_0 ?_
  simp -implicitDefEqProofs only [s_go, s_nil, s_cons, q_ins, s_op, s_i, s_j, s_a, s_v, s_li, s_lj, s_la, s_liO, s_ljO, s_laO, q_get, q_p1, q_p2, s_n2i, s_n2r, s_n2l, s_n2n, q_pad, q_ar, s_ob, s_obO, q_nth, s_ri, s_riO, s_rb, s_rbO, s_rzO, s_rl, s_rlO, s_rq, s_rqO, s_ry, s_ryO, s_dn, s_tl, s_tn, s_ap, s_an, s_ci, s_cr, s_ni, s_n0, s_n1, q_ags, q_cat, List.contains_nil, List.contains_cons, Nat.reduceBEq, Bool.or_false, Bool.false_or, Bool.true_or, Bool.false_eq_true, ↓reduceIte, Nat.le_refl, Nat.zero_le, true_and, and_true, Nat.reduceLeDiff, Nat.reduceAdd, Nat.add_zero, Nat.zero_add, List.length_cons, List.length_nil, List.set_cons_zero, List.set_cons_succ, Nat.reduceLT, s_fi, s_fl, s_fo, s_fa, s_f0, s_f1, s_set, s_ss, lg_cmp_ge, lg_cmp_le, lg_cmp_gt, lg_cmp_lt, lg_cmp_eq, s_brT, s_brF, s_10, w_Ou_readsFlags, r_Ou_readsFlags, l_Ou_readsFlags_0, l_Ou_readsFlags_7, l_Ou_readsFlags_26, l_Ou_readsFlags_51, l_Ou_readsFlags_52, l_Ou_readsFlags_53, l_Ou_readsFlags_67, l_Ou_readsFlags_85, l_Ou_readsFlags_86, kc_0, f_4_50, kc_m1, f_4_29, ml_4_112, w_Cu_u8, kb_8, f_4_18, kc_1, f_4_86]
  exact z_Ou_readsFlags hs hpts hp0 hfi hu5 hB hO q1 q0 (pts - first) 0 0 0 p0 h g0 (by omega) rfl (fun _ _ _ => rfl) hA ⟨fun j hj => absurd hj (by omega), fun j _ => rfl⟩ hC
