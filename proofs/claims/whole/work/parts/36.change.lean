/-! Bytes.change -/
theorem q_By.nr {h : q_H} {f row m sz : Nat} {g : Nat → Int32} {F : Nat → Nat} (hB : q_By h f row m g sz F) : f ≠ row := fun e => by
  have h1 := hB.1
  rw [e, hB.2.1] at h1
  cases h1
def Fup (F : Nat → Nat) (k v : Nat) : Nat → Nat := fun j => if j = k then v else F j
theorem q_By.up {h h' : q_H} {f row m sz k v : Nat} {g : Nat → Int32} {F : Nat → Nat} (hB : q_By h f row m g sz F) (hv : v < 256) (h1 : h' f = h f) (h2 : h' row = some (.inl (1, m, .inl (upd g k (nI v).toInt8.toInt32)))) : q_By h' f row m (upd g k (nI v).toInt8.toInt32) sz (Fup F k v) := by
  refine ⟨h1.trans hB.1, h2, hB.2.2.1, hB.2.2.2.1, fun j hj => ?_, fun j => ?_, fun j => ?_⟩
  · unfold Fup
    by_cases c : j = k
    · subst c
      rw [pk_us, if_pos rfl]
      exact sc_k8 v hv
    · rw [pk_un c, if_neg c]
      exact hB.2.2.2.2.1 j hj
  · by_cases c : j = k
    · subst c
      rw [pk_us]
      exact pk_fb _
    · rw [pk_un c]
      exact hB.2.2.2.2.2.1 j
  · unfold Fup
    split
    · exact hv
    · exact hB.2.2.2.2.2.2 j
set_option maxRecDepth 100000 in
set_option maxHeartbeats 4000000 in
theorem c_By_change {G : q_G} {l : Launch} {d f row m n sz k v : Nat} {g : Nat → Int32} {F : Nat → Nat} {h : q_H} {Q : q_P} (hB : q_By h f row m g sz F) (hk : k < sz) (hv : v < 256) (q1 : ∀ h' g', q_1 h h' row → q_By h' f row m g' sz (Fup F k v) → Q none h' n) : q_Call G l M_By_change d 0 0 [.ref f, .int (nI k), .int (nI v)] h n Q := by
  have hs : sz ≤ 16384 := Nat.le_trans hB.2.2.1 hB.2.2.2.1
  have h1 := hB.1
  have h2 := hB.2.1
  refine q_in u_By_change (by rw [L_By_change]; exact Nat.le_of_ble_eq_true rfl) ?_
  rw [L_By_change]
  refine q_at o_By_change [] 20 l_By_change_0 ?_
  simp -implicitDefEqProofs only [s_go, s_nil, s_cons, q_ins, s_op, s_i, s_j, s_a, s_v, s_li, s_lj, s_la, s_liO, s_ljO, s_laO, q_get, q_p1, q_p2, s_n2i, s_n2r, s_n2l, s_n2n, q_pad, q_ar, s_ob, s_obO, q_nth, s_ri, s_riO, s_rb, s_rbO, s_rzO, s_rl, s_rlO, s_rq, s_rqO, s_ry, s_ryO, s_dn, s_tl, s_tn, s_ap, s_an, s_ci, s_cr, s_ni, s_n0, s_n1, q_ags, q_cat, List.contains_nil, List.contains_cons, Nat.reduceBEq, Bool.or_false, Bool.false_or, Bool.true_or, Bool.false_eq_true, ↓reduceIte, Nat.le_refl, Nat.zero_le, true_and, and_true, Nat.reduceLeDiff, Nat.reduceAdd, Nat.add_zero, Nat.zero_add, List.length_cons, List.length_nil, List.set_cons_zero, List.set_cons_succ, Nat.reduceLT, s_fi, s_fl, s_fo, s_fa, s_f0, s_f1, s_set, s_ss, lg_cmp_ge, lg_cmp_le, lg_cmp_gt, lg_cmp_lt, lg_cmp_eq, s_brT, s_brF, s_10, w_By_change, r_By_change, l_By_change_0, l_By_change_20, f_0_15, f_0_9, h1, h2, nI_clamp (show k < 2 ^ 31 by omega), pk_vb]
  refine ⟨fun z => absurd z (nI_nlt (a := k) (b := 0) (by omega) (by omega)), fun _ => ⟨fun z => absurd ((nI_leI (by omega) (by omega)).mp z) (by omega), fun _ => ⟨vp_in_nI (by have := hB.2.2.1; omega) (by have := hB.2.2.2.1; omega), ?_⟩⟩⟩
  rw [show q_kind 1 = .byte from rfl, pk_vb]
  exact q1 _ _ (fun b hb => s_ne _ _ hb) (hB.up hv (s_ne _ _ hB.nr) (s_set _ _ _))
