/-! numbers in a file: spec words -/
/-- a byte of a stretch (st, ln) of the file F; 0 outside -/
def U8 (F : Nat → Nat) (st ln : Nat) (x : Nat) : Nat := if x < ln then F (st + x) else 0
def U16 (F : Nat → Nat) (st ln : Nat) (x : Nat) : Nat := 256 * U8 F st ln x + U8 F st ln (x + 1)
def U32 (F : Nat → Nat) (st ln : Nat) (x : Nat) : Nat := 65536 * U16 F st ln x + U16 F st ln (x + 2)
def S16 (v : Nat) : Int := if 32767 < v then (v : Int) - 65536 else v
/-- a row of bytes: the object f, its array row of m places g, of which sz are the file F -/
def q_By (h : q_H) (f row m : Nat) (g : Nat → Int32) (sz : Nat) (F : Nat → Nat) : Prop :=
  h f = some (.inr (0, [.ref row, .int (nI sz)])) ∧ h row = some (.inl (1, m, .inl g)) ∧ sz ≤ m ∧ m ≤ 16384 ∧ (∀ j, j < sz → g j &&& 255 = nI (F j)) ∧ (∀ j, fits .byte (.int (g j)) = true) ∧ ∀ j, F j < 256
def q_Ta (h : q_H) (a f st ln : Nat) : Prop := h a = some (.inr (6, [.ref f, .int (nI st), .int (nI ln)]))
theorem U8_lt {F : Nat → Nat} (hF : ∀ j, F j < 256) (st ln : Nat) (x : Nat) : U8 F st ln x < 256 := by
  unfold U8; split
  · exact hF _
  · omega
theorem U16_lt {F : Nat → Nat} (hF : ∀ j, F j < 256) (st ln : Nat) (x : Nat) : U16 F st ln x < 65536 := by
  have := U8_lt hF st ln x; have := U8_lt hF st ln (x + 1); unfold U16; omega
theorem U32_lt {F : Nat → Nat} (hF : ∀ j, F j < 256) (st ln : Nat) (x : Nat) : U32 F st ln x < 4294967296 := by
  have := U16_lt hF st ln x; have := U16_lt hF st ln (x + 2); unfold U32; omega
theorem U8_in {F : Nat → Nat} {st ln j : Nat} (h : j < ln) : U8 F st ln j = F (st + j) := by
  unfold U8; rw [if_pos h]
theorem U8_out {F : Nat → Nat} {st ln j : Nat} (h : ln ≤ j) : U8 F st ln j = 0 := by
  unfold U8; rw [if_neg (by omega)]
set_option maxRecDepth 100000 in
set_option maxHeartbeats 4000000 in
theorem c_Ta_u8 {G : q_G} {l : Launch} {d a f row m n sz st ln j : Nat} {g : Nat → Int32} {F : Nat → Nat} {h : q_H} {Q : q_P} (hT : q_Ta h a f st ln) (hB : q_By h f row m g sz F) (hin : st + ln ≤ sz) (hj : j < 2 ^ 31) (hq : Q (some (.int (nI (U8 F st ln j)))) h n) : q_Call G l M_Ta_u8 d 0 0 [.ref a, .int (nI j)] h n Q := by
  obtain ⟨h2, h3, hsz, hm, hg, hb, hF⟩ := hB
  have h1 : h a = some (.inr (6, [.ref f, .int (nI st), .int (nI ln)])) := hT
  refine q_in u_Ta_u8 (by rw [L_Ta_u8]; exact Nat.le_of_ble_eq_true rfl) ?_
  rw [L_Ta_u8]
  refine q_at o_Ta_u8 [] 20 l_Ta_u8_0 ?_
  simp -implicitDefEqProofs only [s_go, s_nil, s_cons, q_ins, s_op, s_i, s_j, s_a, s_v, s_li, s_lj, s_la, s_liO, s_ljO, s_laO, q_get, q_p1, q_p2, s_n2i, s_n2r, s_n2l, s_n2n, q_pad, q_ar, s_ob, s_obO, q_nth, s_ri, s_riO, s_rb, s_rbO, s_rzO, s_rl, s_rlO, s_rq, s_rqO, s_ry, s_ryO, s_dn, s_tl, s_tn, s_ap, s_an, s_ci, s_cr, s_ni, s_n0, s_n1, q_ags, q_cat, List.contains_nil, List.contains_cons, Nat.reduceBEq, Bool.or_false, Bool.false_or, Bool.true_or, Bool.false_eq_true, ↓reduceIte, Nat.le_refl, Nat.zero_le, true_and, and_true, Nat.reduceLeDiff, Nat.reduceAdd, Nat.add_zero, Nat.zero_add, List.length_cons, List.length_nil, List.set_cons_zero, List.set_cons_succ, Nat.reduceLT, s_fi, s_fl, s_fo, s_fa, s_f0, s_f1, s_set, s_ss, lg_cmp_ge, lg_cmp_le, lg_cmp_gt, lg_cmp_lt, lg_cmp_eq, s_brT, s_brF, s_10, w_Ta_u8, r_Ta_u8, l_Ta_u8_0, l_Ta_u8_50, l_Ta_u8_51, f_6_13, f_6_17, f_6_7, f_6_20, f_6_25, ks_255, kc_0, h1, h2, h3]
  refine ⟨fun c => absurd c (nI_pos hj), fun c => ?_⟩
  refine ⟨fun c1 => ?_, fun c1 => ?_⟩
  · rw [U8_out ((nI_leI (by omega) hj).mp c1)] at hq; exact hq
  have hjl : j < ln := by
    rcases Nat.lt_or_ge j ln with q | q
    · exact q
    · exact absurd ((nI_leI (by omega) hj).mpr q) c1
  rw [nI_add]
  refine ⟨fun c2 => absurd c2 (nI_pos (by omega)), fun c2 => ⟨fun c3 => ?_, fun c3 => ⟨vp_in_nI (by omega) (by omega), ?_⟩⟩⟩
  · exact absurd ((nI_leI (by omega) (by omega)).mp c3) (by omega)
  · rw [nI_clamp (by omega), hg _ (by omega)]
    rw [U8_in hjl] at hq
    exact hq
theorem q_shl (a : Nat) (s : Int32) (k : Nat) (hs : (s.toBitVec.smod 32).toNat = k) (h : a * 2 ^ k < 2 ^ 32) : nI a <<< s = nI (a * 2 ^ k) := pk_shlN s k hs h
theorem q_or {a b k : Nat} (hb : b < 2 ^ k) : nI (a * 2 ^ k) ||| nI b = nI (2 ^ k * a + b) := by
  have e : a * 2 ^ k ||| b = 2 ^ k * a + b := by
    rw [← Nat.shiftLeft_eq, ← Nat.shiftLeft_add_eq_or_of_lt hb, Nat.shiftLeft_eq, Nat.mul_comm]
  rw [← e]
  apply Int32.toBitVec_inj.mp
  show BitVec.ofNat 32 _ ||| BitVec.ofNat 32 _ = BitVec.ofNat 32 _
  rw [BitVec.ofNat_or]
set_option maxRecDepth 100000 in
set_option maxHeartbeats 4000000 in
theorem c_Ta_u16 {G : q_G} {l : Launch} {d a f row m n sz st ln j : Nat} {g : Nat → Int32} {F : Nat → Nat} {h : q_H} {Q : q_P} (hT : q_Ta h a f st ln) (hB : q_By h f row m g sz F) (hin : st + ln ≤ sz) (hj : j < 2147483646) (hq : Q (some (.int (nI (U16 F st ln j)))) h n) : q_Call G l M_Ta_u16 (d + 1) 0 0 [.ref a, .int (nI j)] h n Q := by
  have hF := hB.2.2.2.2.2.2
  have h1 : h a = some (.inr (6, [.ref f, .int (nI st), .int (nI ln)])) := hT
  refine q_in u_Ta_u16 (by rw [L_Ta_u16]; exact Nat.le_of_ble_eq_true rfl) ?_
  rw [L_Ta_u16]
  refine q_at o_Ta_u16 [] 20 l_Ta_u16_0 ?_
  simp -implicitDefEqProofs only [s_go, s_nil, s_cons, q_ins, s_op, s_i, s_j, s_a, s_v, s_li, s_lj, s_la, s_liO, s_ljO, s_laO, q_get, q_p1, q_p2, s_n2i, s_n2r, s_n2l, s_n2n, q_pad, q_ar, s_ob, s_obO, q_nth, s_ri, s_riO, s_rb, s_rbO, s_rzO, s_rl, s_rlO, s_rq, s_rqO, s_ry, s_ryO, s_dn, s_tl, s_tn, s_ap, s_an, s_ci, s_cr, s_ni, s_n0, s_n1, q_ags, q_cat, List.contains_nil, List.contains_cons, Nat.reduceBEq, Bool.or_false, Bool.false_or, Bool.true_or, Bool.false_eq_true, ↓reduceIte, Nat.le_refl, Nat.zero_le, true_and, and_true, Nat.reduceLeDiff, Nat.reduceAdd, Nat.add_zero, Nat.zero_add, List.length_cons, List.length_nil, List.set_cons_zero, List.set_cons_succ, Nat.reduceLT, s_fi, s_fl, s_fo, s_fa, s_f0, s_f1, s_set, s_ss, lg_cmp_ge, lg_cmp_le, lg_cmp_gt, lg_cmp_lt, lg_cmp_eq, s_brT, s_brF, s_10, w_Ta_u16, r_Ta_u16, l_Ta_u16_0, ml_6_29, w_Ta_u8, kb_8, kc_1, h1]
  refine q_c0 (Nat.le_refl _) (Nat.le_refl _) ?_
  refine c_Ta_u8 hT hB hin (by omega) ?_
  simp -implicitDefEqProofs only [s_go, s_nil, s_cons, q_ins, s_op, s_i, s_j, s_a, s_v, s_li, s_lj, s_la, s_liO, s_ljO, s_laO, q_get, q_p1, q_p2, s_n2i, s_n2r, s_n2l, s_n2n, q_pad, q_ar, s_ob, s_obO, q_nth, s_ri, s_riO, s_rb, s_rbO, s_rzO, s_rl, s_rlO, s_rq, s_rqO, s_ry, s_ryO, s_dn, s_tl, s_tn, s_ap, s_an, s_ci, s_cr, s_ni, s_n0, s_n1, q_ags, q_cat, List.contains_nil, List.contains_cons, Nat.reduceBEq, Bool.or_false, Bool.false_or, Bool.true_or, Bool.false_eq_true, ↓reduceIte, Nat.le_refl, Nat.zero_le, true_and, and_true, Nat.reduceLeDiff, Nat.reduceAdd, Nat.add_zero, Nat.zero_add, List.length_cons, List.length_nil, List.set_cons_zero, List.set_cons_succ, Nat.reduceLT, s_fi, s_fl, s_fo, s_fa, s_f0, s_f1, s_set, s_ss, lg_cmp_ge, lg_cmp_le, lg_cmp_gt, lg_cmp_lt, lg_cmp_eq, s_brT, s_brF, s_10, w_Ta_u16, r_Ta_u16, l_Ta_u16_0, ml_6_29, w_Ta_u8, kb_8, kc_1, h1, nI_1]
  refine q_c0 (Nat.le_refl _) (Nat.le_refl _) ?_
  refine c_Ta_u8 hT hB hin (by omega) ?_
  simp -implicitDefEqProofs only [s_go, s_nil, s_cons, q_ins, s_op, s_i, s_j, s_a, s_v, s_li, s_lj, s_la, s_liO, s_ljO, s_laO, q_get, q_p1, q_p2, s_n2i, s_n2r, s_n2l, s_n2n, q_pad, q_ar, s_ob, s_obO, q_nth, s_ri, s_riO, s_rb, s_rbO, s_rzO, s_rl, s_rlO, s_rq, s_rqO, s_ry, s_ryO, s_dn, s_tl, s_tn, s_ap, s_an, s_ci, s_cr, s_ni, s_n0, s_n1, q_ags, q_cat, List.contains_nil, List.contains_cons, Nat.reduceBEq, Bool.or_false, Bool.false_or, Bool.true_or, Bool.false_eq_true, ↓reduceIte, Nat.le_refl, Nat.zero_le, true_and, and_true, Nat.reduceLeDiff, Nat.reduceAdd, Nat.add_zero, Nat.zero_add, List.length_cons, List.length_nil, List.set_cons_zero, List.set_cons_succ, Nat.reduceLT, s_fi, s_fl, s_fo, s_fa, s_f0, s_f1, s_set, s_ss, lg_cmp_ge, lg_cmp_le, lg_cmp_gt, lg_cmp_lt, lg_cmp_eq, s_brT, s_brF, s_10, w_Ta_u16, r_Ta_u16, l_Ta_u16_0, ml_6_29, w_Ta_u8, kb_8, kc_1, h1]
  have b1 := U8_lt hF st ln j
  have b2 := U8_lt hF st ln (j + 1)
  rw [q_shl _ _ 8 (by decide) (by omega), q_or (k := 8) (by omega)]
  exact hq
theorem q_s16 {v : Nat} (h : v < 65536) : (nI v).toInt16.toInt32 = Int32.ofInt (S16 v) := by
  apply Int32.toInt_inj.mp
  rw [Int16.toInt_toInt32, Int32.toInt_toInt16, nI_toInt (by omega), Int32.toInt_ofInt]
  unfold S16
  split <;> simp only [Int.bmod_def, Int32.size] <;> omega
set_option maxRecDepth 100000 in
set_option maxHeartbeats 4000000 in
theorem c_Ta_s16 {G : q_G} {l : Launch} {d a f row m n sz st ln j : Nat} {g : Nat → Int32} {F : Nat → Nat} {h : q_H} {Q : q_P} (hT : q_Ta h a f st ln) (hB : q_By h f row m g sz F) (hin : st + ln ≤ sz) (hj : j < 2147483646) (hq : Q (some (.int (Int32.ofInt (S16 (U16 F st ln j))))) h n) : q_Call G l M_Ta_s16 (d + 2) 0 0 [.ref a, .int (nI j)] h n Q := by
  have hF := hB.2.2.2.2.2.2
  have h1 : h a = some (.inr (6, [.ref f, .int (nI st), .int (nI ln)])) := hT
  refine q_in u_Ta_s16 (by rw [L_Ta_s16]; exact Nat.le_of_ble_eq_true rfl) ?_
  rw [L_Ta_s16]
  refine q_at o_Ta_s16 [] 20 l_Ta_s16_0 ?_
  simp -implicitDefEqProofs only [s_go, s_nil, s_cons, q_ins, s_op, s_i, s_j, s_a, s_v, s_li, s_lj, s_la, s_liO, s_ljO, s_laO, q_get, q_p1, q_p2, s_n2i, s_n2r, s_n2l, s_n2n, q_pad, q_ar, s_ob, s_obO, q_nth, s_ri, s_riO, s_rb, s_rbO, s_rzO, s_rl, s_rlO, s_rq, s_rqO, s_ry, s_ryO, s_dn, s_tl, s_tn, s_ap, s_an, s_ci, s_cr, s_ni, s_n0, s_n1, q_ags, q_cat, List.contains_nil, List.contains_cons, Nat.reduceBEq, Bool.or_false, Bool.false_or, Bool.true_or, Bool.false_eq_true, ↓reduceIte, Nat.le_refl, Nat.zero_le, true_and, and_true, Nat.reduceLeDiff, Nat.reduceAdd, Nat.add_zero, Nat.zero_add, List.length_cons, List.length_nil, List.set_cons_zero, List.set_cons_succ, Nat.reduceLT, s_fi, s_fl, s_fo, s_fa, s_f0, s_f1, s_set, s_ss, lg_cmp_ge, lg_cmp_le, lg_cmp_gt, lg_cmp_lt, lg_cmp_eq, s_brT, s_brF, s_10, w_Ta_s16, r_Ta_s16, l_Ta_s16_0, ml_6_33, w_Ta_u16, h1]
  refine q_c0 (Nat.le_refl _) (Nat.le_refl _) ?_
  refine c_Ta_u16 hT hB hin hj ?_
  simp -implicitDefEqProofs only [s_go, s_nil, s_cons, q_ins, s_op, s_i, s_j, s_a, s_v, s_li, s_lj, s_la, s_liO, s_ljO, s_laO, q_get, q_p1, q_p2, s_n2i, s_n2r, s_n2l, s_n2n, q_pad, q_ar, s_ob, s_obO, q_nth, s_ri, s_riO, s_rb, s_rbO, s_rzO, s_rl, s_rlO, s_rq, s_rqO, s_ry, s_ryO, s_dn, s_tl, s_tn, s_ap, s_an, s_ci, s_cr, s_ni, s_n0, s_n1, q_ags, q_cat, List.contains_nil, List.contains_cons, Nat.reduceBEq, Bool.or_false, Bool.false_or, Bool.true_or, Bool.false_eq_true, ↓reduceIte, Nat.le_refl, Nat.zero_le, true_and, and_true, Nat.reduceLeDiff, Nat.reduceAdd, Nat.add_zero, Nat.zero_add, List.length_cons, List.length_nil, List.set_cons_zero, List.set_cons_succ, Nat.reduceLT, s_fi, s_fl, s_fo, s_fa, s_f0, s_f1, s_set, s_ss, lg_cmp_ge, lg_cmp_le, lg_cmp_gt, lg_cmp_lt, lg_cmp_eq, s_brT, s_brF, s_10, w_Ta_s16, r_Ta_s16, l_Ta_s16_0, ml_6_33, w_Ta_u16, h1, q_s16 (U16_lt hF st ln j)]
  exact hq
theorem q_lor {a b k : Nat} (hb : b < 2 ^ k) : lN (a * 2 ^ k) ||| lN b = lN (2 ^ k * a + b) := by
  have e : a * 2 ^ k ||| b = 2 ^ k * a + b := by
    rw [← Nat.shiftLeft_eq, ← Nat.shiftLeft_add_eq_or_of_lt hb, Nat.shiftLeft_eq, Nat.mul_comm]
  rw [← e]
  apply Int64.toBitVec_inj.mp
  show BitVec.ofNat 64 _ ||| BitVec.ofNat 64 _ = BitVec.ofNat 64 _
  rw [BitVec.ofNat_or]
theorem q_lshl {a : Nat} (h : a < 2 ^ 32) : lN a <<< ((24 : Int32).toInt64 &&& 63) = lN (a * 2 ^ 24) := by
  apply Int64.toBitVec_inj.mp
  rw [Int64.toBitVec_shiftLeft, show (((24 : Int32).toInt64 &&& 63).toBitVec.smod 64) = 24#64 by decide]
  show (BitVec.ofNat 64 a) <<< (24#64) = BitVec.ofNat 64 (a * 2 ^ 24)
  apply BitVec.eq_of_toNat_eq
  simp [BitVec.toNat_shiftLeft, Nat.shiftLeft_eq]
set_option maxRecDepth 100000 in
set_option maxHeartbeats 4000000 in
theorem c_Ta_u32 {G : q_G} {l : Launch} {d a f row m n sz st ln j : Nat} {g : Nat → Int32} {F : Nat → Nat} {h : q_H} {Q : q_P} (hT : q_Ta h a f st ln) (hB : q_By h f row m g sz F) (hin : st + ln ≤ sz) (hj : j < 2147483640) (hq : Q (some (.long (lN (U32 F st ln j)))) h n) : q_Call G l M_Ta_u32 (d + 1) 0 0 [.ref a, .int (nI j)] h n Q := by
  have hF := hB.2.2.2.2.2.2
  have h1 : h a = some (.inr (6, [.ref f, .int (nI st), .int (nI ln)])) := hT
  have e2 : nI j + 2 = nI (j + 2) := nI_add j 2
  have e3 : nI j + 3 = nI (j + 3) := nI_add j 3
  refine q_in u_Ta_u32 (by rw [L_Ta_u32]; exact Nat.le_of_ble_eq_true rfl) ?_
  rw [L_Ta_u32]
  refine q_at o_Ta_u32 [] 20 l_Ta_u32_0 ?_
  simp -implicitDefEqProofs only [s_go, s_nil, s_cons, q_ins, s_op, s_i, s_j, s_a, s_v, s_li, s_lj, s_la, s_liO, s_ljO, s_laO, q_get, q_p1, q_p2, s_n2i, s_n2r, s_n2l, s_n2n, q_pad, q_ar, s_ob, s_obO, q_nth, s_ri, s_riO, s_rb, s_rbO, s_rzO, s_rl, s_rlO, s_rq, s_rqO, s_ry, s_ryO, s_dn, s_tl, s_tn, s_ap, s_an, s_ci, s_cr, s_ni, s_n0, s_n1, q_ags, q_cat, List.contains_nil, List.contains_cons, Nat.reduceBEq, Bool.or_false, Bool.false_or, Bool.true_or, Bool.false_eq_true, ↓reduceIte, Nat.le_refl, Nat.zero_le, true_and, and_true, Nat.reduceLeDiff, Nat.reduceAdd, Nat.add_zero, Nat.zero_add, List.length_cons, List.length_nil, List.set_cons_zero, List.set_cons_succ, Nat.reduceLT, s_fi, s_fl, s_fo, s_fa, s_f0, s_f1, s_set, s_ss, lg_cmp_ge, lg_cmp_le, lg_cmp_gt, lg_cmp_lt, lg_cmp_eq, s_brT, s_brF, s_10, w_Ta_u32, r_Ta_u32, l_Ta_u32_0, ml_6_29, w_Ta_u8, kb_24, kc_1, kb_16, kc_2, kb_8, kc_3, h1]
  refine q_c0 (Nat.le_refl _) (Nat.le_refl _) ?_
  refine c_Ta_u8 hT hB hin (by omega) ?_
  simp -implicitDefEqProofs only [s_go, s_nil, s_cons, q_ins, s_op, s_i, s_j, s_a, s_v, s_li, s_lj, s_la, s_liO, s_ljO, s_laO, q_get, q_p1, q_p2, s_n2i, s_n2r, s_n2l, s_n2n, q_pad, q_ar, s_ob, s_obO, q_nth, s_ri, s_riO, s_rb, s_rbO, s_rzO, s_rl, s_rlO, s_rq, s_rqO, s_ry, s_ryO, s_dn, s_tl, s_tn, s_ap, s_an, s_ci, s_cr, s_ni, s_n0, s_n1, q_ags, q_cat, List.contains_nil, List.contains_cons, Nat.reduceBEq, Bool.or_false, Bool.false_or, Bool.true_or, Bool.false_eq_true, ↓reduceIte, Nat.le_refl, Nat.zero_le, true_and, and_true, Nat.reduceLeDiff, Nat.reduceAdd, Nat.add_zero, Nat.zero_add, List.length_cons, List.length_nil, List.set_cons_zero, List.set_cons_succ, Nat.reduceLT, s_fi, s_fl, s_fo, s_fa, s_f0, s_f1, s_set, s_ss, lg_cmp_ge, lg_cmp_le, lg_cmp_gt, lg_cmp_lt, lg_cmp_eq, s_brT, s_brF, s_10, w_Ta_u32, r_Ta_u32, l_Ta_u32_0, ml_6_29, w_Ta_u8, kb_24, kc_1, kb_16, kc_2, kb_8, kc_3, h1, nI_1]
  refine q_c0 (Nat.le_refl _) (Nat.le_refl _) ?_
  refine c_Ta_u8 hT hB hin (by omega) ?_
  simp -implicitDefEqProofs only [s_go, s_nil, s_cons, q_ins, s_op, s_i, s_j, s_a, s_v, s_li, s_lj, s_la, s_liO, s_ljO, s_laO, q_get, q_p1, q_p2, s_n2i, s_n2r, s_n2l, s_n2n, q_pad, q_ar, s_ob, s_obO, q_nth, s_ri, s_riO, s_rb, s_rbO, s_rzO, s_rl, s_rlO, s_rq, s_rqO, s_ry, s_ryO, s_dn, s_tl, s_tn, s_ap, s_an, s_ci, s_cr, s_ni, s_n0, s_n1, q_ags, q_cat, List.contains_nil, List.contains_cons, Nat.reduceBEq, Bool.or_false, Bool.false_or, Bool.true_or, Bool.false_eq_true, ↓reduceIte, Nat.le_refl, Nat.zero_le, true_and, and_true, Nat.reduceLeDiff, Nat.reduceAdd, Nat.add_zero, Nat.zero_add, List.length_cons, List.length_nil, List.set_cons_zero, List.set_cons_succ, Nat.reduceLT, s_fi, s_fl, s_fo, s_fa, s_f0, s_f1, s_set, s_ss, lg_cmp_ge, lg_cmp_le, lg_cmp_gt, lg_cmp_lt, lg_cmp_eq, s_brT, s_brF, s_10, w_Ta_u32, r_Ta_u32, l_Ta_u32_0, ml_6_29, w_Ta_u8, kb_24, kc_1, kb_16, kc_2, kb_8, kc_3, h1, e2]
  refine q_c0 (Nat.le_refl _) (Nat.le_refl _) ?_
  refine c_Ta_u8 hT hB hin (by omega) ?_
  simp -implicitDefEqProofs only [s_go, s_nil, s_cons, q_ins, s_op, s_i, s_j, s_a, s_v, s_li, s_lj, s_la, s_liO, s_ljO, s_laO, q_get, q_p1, q_p2, s_n2i, s_n2r, s_n2l, s_n2n, q_pad, q_ar, s_ob, s_obO, q_nth, s_ri, s_riO, s_rb, s_rbO, s_rzO, s_rl, s_rlO, s_rq, s_rqO, s_ry, s_ryO, s_dn, s_tl, s_tn, s_ap, s_an, s_ci, s_cr, s_ni, s_n0, s_n1, q_ags, q_cat, List.contains_nil, List.contains_cons, Nat.reduceBEq, Bool.or_false, Bool.false_or, Bool.true_or, Bool.false_eq_true, ↓reduceIte, Nat.le_refl, Nat.zero_le, true_and, and_true, Nat.reduceLeDiff, Nat.reduceAdd, Nat.add_zero, Nat.zero_add, List.length_cons, List.length_nil, List.set_cons_zero, List.set_cons_succ, Nat.reduceLT, s_fi, s_fl, s_fo, s_fa, s_f0, s_f1, s_set, s_ss, lg_cmp_ge, lg_cmp_le, lg_cmp_gt, lg_cmp_lt, lg_cmp_eq, s_brT, s_brF, s_10, w_Ta_u32, r_Ta_u32, l_Ta_u32_0, ml_6_29, w_Ta_u8, kb_24, kc_1, kb_16, kc_2, kb_8, kc_3, h1, e3]
  refine q_c0 (Nat.le_refl _) (Nat.le_refl _) ?_
  refine c_Ta_u8 hT hB hin (by omega) ?_
  simp -implicitDefEqProofs only [s_go, s_nil, s_cons, q_ins, s_op, s_i, s_j, s_a, s_v, s_li, s_lj, s_la, s_liO, s_ljO, s_laO, q_get, q_p1, q_p2, s_n2i, s_n2r, s_n2l, s_n2n, q_pad, q_ar, s_ob, s_obO, q_nth, s_ri, s_riO, s_rb, s_rbO, s_rzO, s_rl, s_rlO, s_rq, s_rqO, s_ry, s_ryO, s_dn, s_tl, s_tn, s_ap, s_an, s_ci, s_cr, s_ni, s_n0, s_n1, q_ags, q_cat, List.contains_nil, List.contains_cons, Nat.reduceBEq, Bool.or_false, Bool.false_or, Bool.true_or, Bool.false_eq_true, ↓reduceIte, Nat.le_refl, Nat.zero_le, true_and, and_true, Nat.reduceLeDiff, Nat.reduceAdd, Nat.add_zero, Nat.zero_add, List.length_cons, List.length_nil, List.set_cons_zero, List.set_cons_succ, Nat.reduceLT, s_fi, s_fl, s_fo, s_fa, s_f0, s_f1, s_set, s_ss, lg_cmp_ge, lg_cmp_le, lg_cmp_gt, lg_cmp_lt, lg_cmp_eq, s_brT, s_brF, s_10, w_Ta_u32, r_Ta_u32, l_Ta_u32_0, ml_6_29, w_Ta_u8, kb_24, kc_1, kb_16, kc_2, kb_8, kc_3, h1]
  have b1 := U8_lt hF st ln j
  have b2 := U8_lt hF st ln (j + 1)
  have b3 := U8_lt hF st ln (j + 2)
  have b4 := U8_lt hF st ln (j + 3)
  rw [q_shl _ _ 16 (by decide) (by omega), q_shl _ _ 8 (by decide) (by omega), nI_l (by omega), nI_l (by omega), nI_l (by omega), nI_l (by omega), q_lshl (by omega), q_lor (k := 24) (by omega),
    show 2 ^ 24 * U8 F st ln j + U8 F st ln (j + 1) * 2 ^ 16 = (256 * U8 F st ln j + U8 F st ln (j + 1)) * 2 ^ 16 by omega, q_lor (k := 16) (by omega),
    show 2 ^ 16 * (256 * U8 F st ln j + U8 F st ln (j + 1)) + U8 F st ln (j + 2) * 2 ^ 8 = (256 * (256 * U8 F st ln j + U8 F st ln (j + 1)) + U8 F st ln (j + 2)) * 2 ^ 8 by omega, q_lor (k := 8) (by omega),
    show 2 ^ 8 * (256 * (256 * U8 F st ln j + U8 F st ln (j + 1)) + U8 F st ln (j + 2)) + U8 F st ln (j + 3) = U32 F st ln j by unfold U32 U16; rw [show j + 2 + 1 = j + 3 from rfl]; omega]
  exact hq
/-- lies many from from on in the table? -/
def q_z (p : Prop) [Decidable p] : Int32 := if p then 1 else 0
theorem q_z_t {p : Prop} [Decidable p] (h : p) : q_z p = 1 := if_pos h
theorem q_z_f {p : Prop} [Decidable p] (h : ¬ p) : q_z p = 0 := if_neg h
set_option maxRecDepth 100000 in
set_option maxHeartbeats 4000000 in
theorem c_Ta_holds {G : q_G} {l : Launch} {d a f n st ln x y : Nat} {h : q_H} {Q : q_P} (hT : q_Ta h a f st ln) (hl : ln ≤ 16384) (hx : x < 2 ^ 62) (hy : y < 2 ^ 62) (hq : Q (some (.int (q_z (x + y ≤ ln)))) h n) : q_Call G l M_Ta_holds d 0 0 [.ref a, .long (lN x), .long (lN y)] h n Q := by
  have h1 : h a = some (.inr (6, [.ref f, .int (nI st), .int (nI ln)])) := hT
  refine q_in u_Ta_holds (by rw [L_Ta_holds]; exact Nat.le_of_ble_eq_true rfl) ?_
  rw [L_Ta_holds]
  refine q_at o_Ta_holds [] 20 l_Ta_holds_0 ?_
  simp -implicitDefEqProofs only [s_go, s_nil, s_cons, q_ins, s_op, s_i, s_j, s_a, s_v, s_li, s_lj, s_la, s_liO, s_ljO, s_laO, q_get, q_p1, q_p2, s_n2i, s_n2r, s_n2l, s_n2n, q_pad, q_ar, s_ob, s_obO, q_nth, s_ri, s_riO, s_rb, s_rbO, s_rzO, s_rl, s_rlO, s_rq, s_rqO, s_ry, s_ryO, s_dn, s_tl, s_tn, s_ap, s_an, s_ci, s_cr, s_ni, s_n0, s_n1, q_ags, q_cat, List.contains_nil, List.contains_cons, Nat.reduceBEq, Bool.or_false, Bool.false_or, Bool.true_or, Bool.false_eq_true, ↓reduceIte, Nat.le_refl, Nat.zero_le, true_and, and_true, Nat.reduceLeDiff, Nat.reduceAdd, Nat.add_zero, Nat.zero_add, List.length_cons, List.length_nil, List.set_cons_zero, List.set_cons_succ, Nat.reduceLT, s_fi, s_fl, s_fo, s_fa, s_f0, s_f1, s_set, s_ss, lg_cmp_ge, lg_cmp_le, lg_cmp_gt, lg_cmp_lt, lg_cmp_eq, s_brT, s_brF, s_10, w_Ta_holds, r_Ta_holds, l_Ta_holds_0, l_Ta_holds_28, l_Ta_holds_29, kj_0, f_6_17, kc_1, kc_0, h1, lN_add, nI_l (show ln < 2 ^ 31 by omega)]
  have nn : ∀ z : Nat, z < 2 ^ 62 → ¬ lN z < 0 := fun z hz q => absurd ((pk_lLT (a := z) (b := 0) (by omega) (by omega)).mp q) (by omega)
  refine ⟨fun c => absurd c (nn x hx), fun _ => ⟨fun c => absurd c (nn y hy), fun _ => ⟨fun c => ?_, fun c => ?_⟩⟩⟩
  · rw [q_z_f (by have := (pk_lLT (by omega) (by omega)).mp c; omega)] at hq; exact hq
  · rw [q_z_t (by
      rcases Nat.lt_or_ge ln (x + y) with q | q
      · exact absurd ((pk_lLT (by omega) (by omega)).mpr q) c
      · exact q)] at hq
    exact hq
set_option maxRecDepth 100000 in
set_option maxHeartbeats 4000000 in
theorem c_Ta_lay {G : q_G} {l : Launch} {d a f n st ln st' ln' : Nat} {h : q_H} {Q : q_P} (hT : q_Ta h a f st ln) (hq : Q none (q_set h a (.inr (6, [.ref f, .int (nI st'), .int (nI ln')]))) n) : q_Call G l M_Ta_lay d 0 0 [.ref a, .int (nI st'), .int (nI ln')] h n Q := by
  have h1 : h a = some (.inr (6, [.ref f, .int (nI st), .int (nI ln)])) := hT
  refine q_in u_Ta_lay (by rw [L_Ta_lay]; exact Nat.le_of_ble_eq_true rfl) ?_
  rw [L_Ta_lay]
  refine q_at o_Ta_lay [] 20 l_Ta_lay_0 ?_
  simp -implicitDefEqProofs only [s_go, s_nil, s_cons, q_ins, s_op, s_i, s_j, s_a, s_v, s_li, s_lj, s_la, s_liO, s_ljO, s_laO, q_get, q_p1, q_p2, s_n2i, s_n2r, s_n2l, s_n2n, q_pad, q_ar, s_ob, s_obO, q_nth, s_ri, s_riO, s_rb, s_rbO, s_rzO, s_rl, s_rlO, s_rq, s_rqO, s_ry, s_ryO, s_dn, s_tl, s_tn, s_ap, s_an, s_ci, s_cr, s_ni, s_n0, s_n1, q_ags, q_cat, List.contains_nil, List.contains_cons, Nat.reduceBEq, Bool.or_false, Bool.false_or, Bool.true_or, Bool.false_eq_true, ↓reduceIte, Nat.le_refl, Nat.zero_le, true_and, and_true, Nat.reduceLeDiff, Nat.reduceAdd, Nat.add_zero, Nat.zero_add, List.length_cons, List.length_nil, List.set_cons_zero, List.set_cons_succ, Nat.reduceLT, s_fi, s_fl, s_fo, s_fa, s_f0, s_f1, s_set, s_ss, lg_cmp_ge, lg_cmp_le, lg_cmp_gt, lg_cmp_lt, lg_cmp_eq, s_brT, s_brF, s_10, w_Ta_lay, r_Ta_lay, l_Ta_lay_0, f_6_13, ty_6_1, f_6_17, ty_6_2, h1]
  exact hq
