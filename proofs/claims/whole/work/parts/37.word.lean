/-! Bytes.addWord -/
/-- a word's low byte -/
def bv (x : Int32) : Nat := (x.toInt % 256).toNat
theorem bv_lt (x : Int32) : bv x < 256 := by unfold bv; omega
theorem bv_8 (x : Int32) : x.toInt8 = (nI (bv x)).toInt8 := by
  rw [← Int8.toInt_inj, Int32.toInt_toInt8, Int32.toInt_toInt8, nI_toInt (by have := bv_lt x; omega)]
  unfold bv
  rw [Int.toNat_of_nonneg (by omega)]
  exact (Int.emod_bmod ..).symm
def q_gF (g : Nat → Int32) (F : Nat → Nat) (s : Nat) : Prop := (∀ j, j < s → g j &&& 255 = nI (F j)) ∧ (∀ j, fits .byte (.int (g j)) = true) ∧ ∀ j, F j < 256
theorem q_gF.st {g : Nat → Int32} {F : Nat → Nat} {s : Nat} (x : Int32) (k : q_gF g F s) : q_gF (upd g s x.toInt8.toInt32) (Fup F s (bv x)) (s + 1) := by
  refine ⟨fun j hj => ?_, fun j => ?_, fun j => ?_⟩
  · unfold Fup
    by_cases c : j = s
    · subst c
      rw [pk_us, if_pos rfl, bv_8]
      exact sc_k8 _ (bv_lt x)
    · rw [pk_un c, if_neg c]
      exact k.1 j (by omega)
  · by_cases c : j = s
    · subst c
      rw [pk_us]
      exact pk_fb _
    · rw [pk_un c]
      exact k.2.1 j
  · unfold Fup
    split
    · exact bv_lt x
    · exact k.2.2 j
/-- a word laid behind the bytes -/
def FW (F : Nat → Nat) (s : Nat) (w : Int32) : Nat → Nat := Fup (Fup (Fup (Fup F s (bv (w >>> (24 &&& 31)))) (s + 1) (bv (w >>> (16 &&& 31)))) (s + 2) (bv (w >>> (8 &&& 31)))) (s + 3) (bv w)
set_option maxRecDepth 100000 in
set_option maxHeartbeats 4000000 in
theorem c_By_addWord {G : q_G} {l : Launch} {d f row m n sz : Nat} {w : Int32} {g : Nat → Int32} {F : Nat → Nat} {h : q_H} {Q : q_P} (hB : q_By h f row m g sz F) (hm : sz + 4 ≤ m) (q1 : ∀ h' g', q_2 h h' f row → q_By h' f row m g' (sz + 4) (FW F sz w) → Q none h' n) : q_Call G l M_By_addWord d 0 0 [.ref f, .int w] h n Q := by
  have hs : m ≤ 16384 := hB.2.2.2.1
  have h1 := hB.1
  have h2 := hB.2.1
  refine q_in u_By_addWord (by rw [L_By_addWord]; exact Nat.le_of_ble_eq_true rfl) ?_
  rw [L_By_addWord]
  refine q_at o_By_addWord [] 20 l_By_addWord_0 ?_
  simp -implicitDefEqProofs only [s_go, s_nil, s_cons, q_ins, s_op, s_i, s_j, s_a, s_v, s_li, s_lj, s_la, s_liO, s_ljO, s_laO, q_get, q_p1, q_p2, s_n2i, s_n2r, s_n2l, s_n2n, q_pad, q_ar, s_ob, s_obO, q_nth, s_ri, s_riO, s_rb, s_rbO, s_rzO, s_rl, s_rlO, s_rq, s_rqO, s_ry, s_ryO, s_dn, s_tl, s_tn, s_ap, s_an, s_ci, s_cr, s_ni, s_n0, s_n1, q_ags, q_cat, List.contains_nil, List.contains_cons, Nat.reduceBEq, Bool.or_false, Bool.false_or, Bool.true_or, Bool.false_eq_true, ↓reduceIte, Nat.le_refl, Nat.zero_le, true_and, and_true, Nat.reduceLeDiff, Nat.reduceAdd, Nat.add_zero, Nat.zero_add, List.length_cons, List.length_nil, List.set_cons_zero, List.set_cons_succ, Nat.reduceLT, s_fi, s_fl, s_fo, s_fa, s_f0, s_f1, s_set, s_ss, lg_cmp_ge, lg_cmp_le, lg_cmp_gt, lg_cmp_lt, lg_cmp_eq, s_brT, s_brF, s_10, w_By_addWord, r_By_addWord, l_By_addWord_0, l_By_addWord_15, f_0_15, kc_4, f_0_9, kb_24, kc_1, kb_16, kc_2, kb_8, kc_3, ty_0_1, h1, h2, s_ne _ _ hB.nr, nI_add, nI_clamp (show sz < 2 ^ 31 by omega)]
  rw [show q_kind 1 = .byte from rfl, pk_vb, pk_vb, pk_vb, pk_vb, show nI sz + 1 = nI (sz + 1) from nI_add sz 1, show nI sz + 2 = nI (sz + 2) from nI_add sz 2, show nI sz + 3 = nI (sz + 3) from nI_add sz 3, show nI sz + 4 = nI (sz + 4) from nI_add sz 4, nI_clamp (show sz + 1 < 2 ^ 31 by omega), nI_clamp (show sz + 2 < 2 ^ 31 by omega), nI_clamp (show sz + 3 < 2 ^ 31 by omega)]
  refine ⟨fun _ => ⟨vp_in_nI (by omega) (by omega), vp_in_nI (by omega) (by omega), vp_in_nI (by omega) (by omega), vp_in_nI (by omega) (by omega), ?_⟩, fun z => absurd (nI_le hm (by omega)) z⟩
  have k0 : q_gF g F sz := hB.2.2.2.2
  have k4 := (((k0.st (w >>> (24 &&& 31))).st (w >>> (16 &&& 31))).st (w >>> (8 &&& 31))).st w
  exact q1 _ _ (fun b b1 b2 => by rw [s_ne _ _ b1, s_ne _ _ b2]) ⟨s_set _ _ _, by rw [s_ne _ _ hB.nr.symm]; exact s_set _ _ _, hm, hs, k4⟩
