/-! Bytes.makeRoom where the row must grow -/
/-- the longer row's length -/
def RL (m k : Nat) : Nat := if (if k < 2 * m then 2 * m else k) < 16384 then (if k < 2 * m then 2 * m else k) else 16384
theorem RL_b {m k : Nat} (h : m < k) (hk : k ≤ 16384) : m < RL m k ∧ k ≤ RL m k ∧ RL m k ≤ 16384 := by
  unfold RL
  split <;> split <;> omega
set_option maxRecDepth 100000 in
set_option maxHeartbeats 4000000 in
theorem c_By_room1 {G : q_G} {l : Launch} {d f row m n sz k : Nat} {g : Nat → Int32} {F : Nat → Nat} {h : q_H} {Q : q_P} (hB : q_By h f row m g sz F) (hm : m < k) (hk : k ≤ 16384) (hr : row < n) (hf : f < n) (q1 : ∀ h' g', q_2 h h' f n → q_By h' f n (RL m k) g' sz F → Q none h' (n + 1)) : q_Call G l M_By_makeRoom (d + 2) 1 (RL m k) [.ref f, .int (nI k)] h n Q := by
  have h1 := hB.1
  have h2 := hB.2.1
  refine q_in u_By_makeRoom (by rw [L_By_makeRoom]; exact Nat.le_of_ble_eq_true rfl) ?_
  rw [L_By_makeRoom]
  refine q_at o_By_makeRoom [] 20 l_By_makeRoom_0 ?_
  simp -implicitDefEqProofs only [s_go, s_nil, s_cons, q_ins, s_op, s_i, s_j, s_a, s_v, s_li, s_lj, s_la, s_liO, s_ljO, s_laO, q_get, q_p1, q_p2, s_n2i, s_n2r, s_n2l, s_n2n, q_pad, q_ar, s_ob, s_obO, q_nth, s_ri, s_riO, s_rb, s_rbO, s_rzO, s_rl, s_rlO, s_rq, s_rqO, s_ry, s_ryO, s_dn, s_tl, s_tn, s_ap, s_an, s_ci, s_cr, s_ni, s_n0, s_n1, q_ags, q_cat, List.contains_nil, List.contains_cons, Nat.reduceBEq, Bool.or_false, Bool.false_or, Bool.true_or, Bool.false_eq_true, ↓reduceIte, Nat.le_refl, Nat.zero_le, true_and, and_true, Nat.reduceLeDiff, Nat.reduceAdd, Nat.add_zero, Nat.zero_add, List.length_cons, List.length_nil, List.set_cons_zero, List.set_cons_succ, Nat.reduceLT, s_fi, s_fl, s_fo, s_fa, s_f0, s_f1, s_set, s_ss, lg_cmp_ge, lg_cmp_le, lg_cmp_gt, lg_cmp_lt, lg_cmp_eq, s_brT, s_brF, s_10, w_By_makeRoom, r_By_makeRoom, l_By_makeRoom_0, l_By_makeRoom_44, f_0_9, ks_16384, kc_2, mm_0_19, q_ac_no_0_19, mm_0_25, q_ac_no_0_25, ml_0_28, w_Ar_copyOf, q_ac_no_0_28, q_mm_no_0_28, ty_0_0, h1, h2]
  have hmm := hB.2.2.1
  refine ⟨fun z => absurd ((nI_leI (by omega) (by omega)).mp z) (by omega), fun _ => ⟨fun z => absurd ((nI_ltI (a := 16384) (by omega) (by omega)).mp z) (by omega), fun _ => ?_⟩⟩
  have e0 : 2 * Int32.ofNat m = nI (2 * m) := (Int32.ofNat_mul 2 m).symm
  have e1 : (if nI k < 2 * Int32.ofNat m then 2 * Int32.ofNat m else nI k) = nI (if k < 2 * m then 2 * m else k) := by
    rw [e0]
    by_cases c : k < 2 * m
    · rw [if_pos c, if_pos ((nI_ltI (by omega) (by omega)).mpr c)]
    · rw [if_neg c, if_neg (fun y => c ((nI_ltI (by omega) (by omega)).mp y))]
  have e2 : (if nI (if k < 2 * m then 2 * m else k) < 16384 then nI (if k < 2 * m then 2 * m else k) else 16384) = nI (RL m k) := by
    unfold RL
    rw [show (16384 : Int32) = nI 16384 from rfl]
    have b : (if k < 2 * m then 2 * m else k) < 2 ^ 31 := by split <;> omega
    by_cases c : (if k < 2 * m then 2 * m else k) < 16384
    · rw [if_pos c, if_pos ((nI_ltI (b := 16384) b (by omega)).mpr c)]
    · rw [if_neg c, if_neg (fun y => c ((nI_ltI (b := 16384) b (by omega)).mp y))]
  rw [e1, e2]
  obtain ⟨r1, r2, r3⟩ := RL_b hm hk
  refine q_c1 1 (RL m k) (by omega) (by omega) ?_
  refine c_Ar_copyOf h2 hr r1 r3 hB.2.2.2.2.2.1 (fun h' g' t1 A1 L1 L2 => ?_)
  have h1' := (t1 f (by omega)).trans h1
  simp -implicitDefEqProofs only [s_go, s_nil, s_cons, q_ins, s_op, s_i, s_j, s_a, s_v, s_li, s_lj, s_la, s_liO, s_ljO, s_laO, q_get, q_p1, q_p2, s_n2i, s_n2r, s_n2l, s_n2n, q_pad, q_ar, s_ob, s_obO, q_nth, s_ri, s_riO, s_rb, s_rbO, s_rzO, s_rl, s_rlO, s_rq, s_rqO, s_ry, s_ryO, s_dn, s_tl, s_tn, s_ap, s_an, s_ci, s_cr, s_ni, s_n0, s_n1, q_ags, q_cat, List.contains_nil, List.contains_cons, Nat.reduceBEq, Bool.or_false, Bool.false_or, Bool.true_or, Bool.false_eq_true, ↓reduceIte, Nat.le_refl, Nat.zero_le, true_and, and_true, Nat.reduceLeDiff, Nat.reduceAdd, Nat.add_zero, Nat.zero_add, List.length_cons, List.length_nil, List.set_cons_zero, List.set_cons_succ, Nat.reduceLT, s_fi, s_fl, s_fo, s_fa, s_f0, s_f1, s_set, s_ss, lg_cmp_ge, lg_cmp_le, lg_cmp_gt, lg_cmp_lt, lg_cmp_eq, s_brT, s_brF, s_10, w_By_makeRoom, r_By_makeRoom, l_By_makeRoom_0, l_By_makeRoom_44, f_0_9, ks_16384, kc_2, mm_0_19, q_ac_no_0_19, mm_0_25, q_ac_no_0_25, ml_0_28, w_Ar_copyOf, q_ac_no_0_28, q_mm_no_0_28, ty_0_0, h1', A1]
  refine q1 _ g' (fun b b1 b2 => by rw [s_ne _ _ b1]; exact t1 b b2) ⟨s_set _ _ _, by rw [s_ne _ _ (by omega)]; exact A1, by omega, r3, fun j hj => by rw [L1 j (by omega)]; exact hB.2.2.2.2.1 j hj, fun j => ?_, hB.2.2.2.2.2.2⟩
  rcases Nat.lt_or_ge j m with y | y
  · rw [L1 j y]
    exact hB.2.2.2.2.2.1 j
  · rw [L2 j y]
    rfl
