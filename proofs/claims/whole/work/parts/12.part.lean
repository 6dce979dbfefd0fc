/-! signed numbers; Part -/
def iI (z : Int) : Int32 := Int32.ofInt z
def lI (z : Int) : Int64 := Int64.ofInt z
theorem iI_toInt {z : Int} (h1 : -2147483648 ≤ z) (h2 : z < 2147483648) : (iI z).toInt = z := by
  unfold iI; rw [Int32.toInt_ofInt]; simp only [Int.bmod_def, Int32.size]; omega
theorem lI_toInt {z : Int} (h1 : -9223372036854775808 ≤ z) (h2 : z < 9223372036854775808) : (lI z).toInt = z := by
  unfold lI; rw [Int64.toInt_ofInt]; simp only [Int.bmod_def, Int64.size]; omega
theorem iI_nat (n : Nat) : iI (n : Int) = nI n := rfl
theorem iI_l {z : Int} (h1 : -2147483648 ≤ z) (h2 : z < 2147483648) : (iI z).toInt64 = lI z := by
  apply Int64.toInt_inj.mp
  rw [Int32.toInt_toInt64, iI_toInt h1 h2, lI_toInt (by omega) (by omega)]
theorem lI_add (a b : Int) : lI a + lI b = lI (a + b) := (Int64.ofInt_add a b).symm
theorem lI_mul (a b : Int) : lI a * lI b = lI (a * b) := (Int64.ofInt_mul a b).symm
theorem iI_add (a b : Int) : iI a + iI b = iI (a + b) := (Int32.ofInt_add a b).symm
theorem iI_sub (a b : Int) : iI a - iI b = iI (a - b) := (Int32.ofInt_sub a b).symm
theorem lI_i (z : Int) : (lI z).toInt32 = iI z := by
  apply Int32.toInt_inj.mp
  rw [Int64.toInt_toInt32]
  unfold lI iI
  rw [Int64.toInt_ofInt, Int32.toInt_ofInt]
  simp only [Int.bmod_def, Int32.size, Int64.size]
  omega
theorem lI_shr14 {z : Int} (h1 : -9223372036854775808 ≤ z) (h2 : z < 9223372036854775808) : lI z >>> ((14 : Int32).toInt64 &&& 63) = lI (z / 16384) := by
  apply Int64.toInt_inj.mp
  rw [lI_toInt (by omega) (by omega), ← Int64.toInt_toBitVec, Int64.toBitVec_shiftRight, show (((14 : Int32).toInt64 &&& 63).toBitVec.smod 64) = 14#64 by decide, BitVec.sshiftRight', BitVec.toInt_sshiftRight, Int64.toInt_toBitVec, lI_toInt h1 h2, Int.shiftRight_eq_div_pow]
  rfl
/-- a part's point is turned: a x + c y, in 16384ths, rounded down -/
def TR (a x c y : Int) : Int := (a * x + c * y) / 16384
def q_sm (z : Int) : Prop := -32768 ≤ z ∧ z < 32768
theorem q_mulb {a x : Int} (ha : q_sm a) (hx : q_sm x) : -1073741824 ≤ a * x ∧ a * x ≤ 1073741824 := by
  obtain ⟨a1, a2⟩ := ha
  obtain ⟨x1, x2⟩ := hx
  have h1 : 0 ≤ (a + 32768) * (x + 32768) := Int.mul_nonneg (by omega) (by omega)
  have h2 : 0 ≤ (32768 - a) * (x + 32768) := Int.mul_nonneg (by omega) (by omega)
  have h3 : 0 ≤ (a + 32768) * (32768 - x) := Int.mul_nonneg (by omega) (by omega)
  have h4 : 0 ≤ (32768 - a) * (32768 - x) := Int.mul_nonneg (by omega) (by omega)
  simp only [Int.add_mul, Int.mul_add, Int.sub_mul, Int.mul_sub] at h1 h2 h3 h4
  constructor <;> omega
theorem TR_b {a x c y : Int} (ha : q_sm a) (hx : q_sm x) (hc : q_sm c) (hy : q_sm y) : -131072 ≤ TR a x c y ∧ TR a x c y ≤ 131072 := by
  have h1 := q_mulb ha hx
  have h2 := q_mulb hc hy
  unfold TR
  omega
def e_Pa (cu : Nat) (fl ch p q a b c d : Int32) : q_E := .inr (5, [.ref cu, .int fl, .int ch, .int p, .int q, .int a, .int b, .int c, .int d])
set_option maxRecDepth 100000 in
set_option maxHeartbeats 4000000 in
theorem c_Pa_turnedX {G : q_G} {l : Launch} {dd o cu n : Nat} {fl ch p q : Int32} {a b c d x y : Int} {h : q_H} {Q : q_P} (hP : h o = some (e_Pa cu fl ch p q (iI a) (iI b) (iI c) (iI d))) (ha : q_sm a) (hc : q_sm c) (hx : q_sm x) (hy : q_sm y) (hq : Q (some (.int (iI (TR a x c y)))) h n) : q_Call G l M_Pa_turnedX dd 0 0 [.ref o, .int (iI x), .int (iI y)] h n Q := by
  unfold e_Pa at hP
  have r : ∀ z, q_sm z → (iI z).toInt64 = lI z := fun z hz => iI_l (by have := hz.1; omega) (by have := hz.2; omega)
  have h1 := q_mulb ha hx
  have h2 := q_mulb hc hy
  refine q_in u_Pa_turnedX (by rw [L_Pa_turnedX]; exact Nat.le_of_ble_eq_true rfl) ?_
  rw [L_Pa_turnedX]
  refine q_at o_Pa_turnedX [] 20 l_Pa_turnedX_0 ?_
  simp -implicitDefEqProofs only [s_go, s_nil, s_cons, q_ins, s_op, s_i, s_j, s_a, s_v, s_li, s_lj, s_la, s_liO, s_ljO, s_laO, q_get, q_p1, q_p2, s_n2i, s_n2r, s_n2l, s_n2n, q_pad, q_ar, s_ob, s_obO, q_nth, s_ri, s_riO, s_rb, s_rbO, s_rzO, s_rl, s_rlO, s_rq, s_rqO, s_ry, s_ryO, s_dn, s_tl, s_tn, s_ap, s_an, s_ci, s_cr, s_ni, s_n0, s_n1, q_ags, q_cat, List.contains_nil, List.contains_cons, Nat.reduceBEq, Bool.or_false, Bool.false_or, Bool.true_or, Bool.false_eq_true, ↓reduceIte, Nat.le_refl, Nat.zero_le, true_and, and_true, Nat.reduceLeDiff, Nat.reduceAdd, Nat.add_zero, Nat.zero_add, List.length_cons, List.length_nil, List.set_cons_zero, List.set_cons_succ, Nat.reduceLT, s_fi, s_fl, s_fo, s_fa, s_f0, s_f1, s_set, s_ss, lg_cmp_ge, lg_cmp_le, lg_cmp_gt, lg_cmp_lt, lg_cmp_eq, s_brT, s_brF, s_10, w_Pa_turnedX, r_Pa_turnedX, l_Pa_turnedX_0, f_5_60, f_5_66, kb_14, hP, r a ha, r c hc, r x hx, r y hy, lI_mul, lI_add, lI_shr14 (show -9223372036854775808 ≤ a * x + c * y by omega) (show a * x + c * y < 9223372036854775808 by omega), lI_i]
  exact hq
set_option maxRecDepth 100000 in
set_option maxHeartbeats 4000000 in
theorem c_Pa_turnedY {G : q_G} {l : Launch} {dd o cu n : Nat} {fl ch p q : Int32} {a b c d x y : Int} {h : q_H} {Q : q_P} (hP : h o = some (e_Pa cu fl ch p q (iI a) (iI b) (iI c) (iI d))) (hb : q_sm b) (hd : q_sm d) (hx : q_sm x) (hy : q_sm y) (hq : Q (some (.int (iI (TR b x d y)))) h n) : q_Call G l M_Pa_turnedY dd 0 0 [.ref o, .int (iI x), .int (iI y)] h n Q := by
  unfold e_Pa at hP
  have r : ∀ z, q_sm z → (iI z).toInt64 = lI z := fun z hz => iI_l (by have := hz.1; omega) (by have := hz.2; omega)
  have h1 := q_mulb hb hx
  have h2 := q_mulb hd hy
  refine q_in u_Pa_turnedY (by rw [L_Pa_turnedY]; exact Nat.le_of_ble_eq_true rfl) ?_
  rw [L_Pa_turnedY]
  refine q_at o_Pa_turnedY [] 20 l_Pa_turnedY_0 ?_
  simp -implicitDefEqProofs only [s_go, s_nil, s_cons, q_ins, s_op, s_i, s_j, s_a, s_v, s_li, s_lj, s_la, s_liO, s_ljO, s_laO, q_get, q_p1, q_p2, s_n2i, s_n2r, s_n2l, s_n2n, q_pad, q_ar, s_ob, s_obO, q_nth, s_ri, s_riO, s_rb, s_rbO, s_rzO, s_rl, s_rlO, s_rq, s_rqO, s_ry, s_ryO, s_dn, s_tl, s_tn, s_ap, s_an, s_ci, s_cr, s_ni, s_n0, s_n1, q_ags, q_cat, List.contains_nil, List.contains_cons, Nat.reduceBEq, Bool.or_false, Bool.false_or, Bool.true_or, Bool.false_eq_true, ↓reduceIte, Nat.le_refl, Nat.zero_le, true_and, and_true, Nat.reduceLeDiff, Nat.reduceAdd, Nat.add_zero, Nat.zero_add, List.length_cons, List.length_nil, List.set_cons_zero, List.set_cons_succ, Nat.reduceLT, s_fi, s_fl, s_fo, s_fa, s_f0, s_f1, s_set, s_ss, lg_cmp_ge, lg_cmp_le, lg_cmp_gt, lg_cmp_lt, lg_cmp_eq, s_brT, s_brF, s_10, w_Pa_turnedY, r_Pa_turnedY, l_Pa_turnedY_0, f_5_63, f_5_69, kb_14, hP, r b hb, r d hd, r x hx, r y hy, lI_mul, lI_add, lI_shr14 (show -9223372036854775808 ≤ b * x + d * y by omega) (show b * x + d * y < 9223372036854775808 by omega), lI_i]
  exact hq
/-- bit k of a number -/
abbrev BT (v k : Nat) : Prop := v / 2 ^ k % 2 = 1
theorem q_nand (a b : Nat) : nI a &&& nI b = nI (a &&& b) := by
  apply Int32.toBitVec_inj.mp
  show BitVec.ofNat 32 _ &&& BitVec.ofNat 32 _ = BitVec.ofNat 32 _
  rw [BitVec.ofNat_and]
theorem q_bit {v k : Nat} (hv : v < 65536) (hk : k < 16) : (nI v &&& nI (2 ^ k) = 0) ↔ ¬ BT v k := by
  have hp : 2 ^ k ≤ 2 ^ 15 := Nat.pow_le_pow_right (by omega) (by omega)
  have hb : v &&& 2 ^ k ≤ 2 ^ k := Nat.and_le_right
  rw [q_nand, show (0 : Int32) = nI 0 from rfl, nI_eq (by omega) (by omega)]
  constructor
  · intro h0 hq
    have h1 : (v &&& 2 ^ k).testBit k = true := by
      rw [Nat.testBit_and, Nat.testBit_two_pow_self, Nat.testBit_eq_decide_div_mod_eq]
      simp [hq]
    rw [h0] at h1
    simp at h1
  · intro hq
    apply Nat.eq_of_testBit_eq
    intro i
    rw [Nat.testBit_and, Nat.testBit_two_pow, Nat.zero_testBit]
    by_cases hi : k = i
    · subst hi
      rw [Nat.testBit_eq_decide_div_mod_eq]
      simp [hq]
    · simp [hi]
set_option maxRecDepth 100000 in
set_option maxHeartbeats 4000000 in
theorem c_Pa_has {G : q_G} {l : Launch} {dd o cu n : Nat} {fl k : Nat} {ch p q a b c d : Int32} {h : q_H} {Q : q_P} (hP : h o = some (e_Pa cu (nI fl) ch p q a b c d)) (hf : fl < 65536) (hk : k < 16) (q1 : BT fl k → Q (some (.int 1)) h n) (q0 : ¬ BT fl k → Q (some (.int 0)) h n) : q_Call G l M_Pa_has dd 0 0 [.ref o, .int (nI (2 ^ k))] h n Q := by
  unfold e_Pa at hP
  refine q_in u_Pa_has (by rw [L_Pa_has]; exact Nat.le_of_ble_eq_true rfl) ?_
  rw [L_Pa_has]
  refine q_at o_Pa_has [] 20 l_Pa_has_0 ?_
  simp -implicitDefEqProofs only [s_go, s_nil, s_cons, q_ins, s_op, s_i, s_j, s_a, s_v, s_li, s_lj, s_la, s_liO, s_ljO, s_laO, q_get, q_p1, q_p2, s_n2i, s_n2r, s_n2l, s_n2n, q_pad, q_ar, s_ob, s_obO, q_nth, s_ri, s_riO, s_rb, s_rbO, s_rzO, s_rl, s_rlO, s_rq, s_rqO, s_ry, s_ryO, s_dn, s_tl, s_tn, s_ap, s_an, s_ci, s_cr, s_ni, s_n0, s_n1, q_ags, q_cat, List.contains_nil, List.contains_cons, Nat.reduceBEq, Bool.or_false, Bool.false_or, Bool.true_or, Bool.false_eq_true, ↓reduceIte, Nat.le_refl, Nat.zero_le, true_and, and_true, Nat.reduceLeDiff, Nat.reduceAdd, Nat.add_zero, Nat.zero_add, List.length_cons, List.length_nil, List.set_cons_zero, List.set_cons_succ, Nat.reduceLT, s_fi, s_fl, s_fo, s_fa, s_f0, s_f1, s_set, s_ss, lg_cmp_ge, lg_cmp_le, lg_cmp_gt, lg_cmp_lt, lg_cmp_eq, s_brT, s_brF, s_10, w_Pa_has, r_Pa_has, l_Pa_has_0, l_Pa_has_13, l_Pa_has_14, f_5_20, kc_1, kc_0, hP, q_bit hf hk]
  exact ⟨fun c => q0 c, fun c => q1 (Decidable.not_not.mp c)⟩
def S8 (v : Nat) : Int := if 127 < v then (v : Int) - 256 else v
theorem q_s8 {v : Nat} (h : v < 256) : (nI v).toInt8.toInt32 = iI (S8 v) := by
  apply Int32.toInt_inj.mp
  rw [Int8.toInt_toInt32, Int32.toInt_toInt8, nI_toInt (by omega), iI_toInt (by unfold S8; split <;> omega) (by unfold S8; split <;> omega)]
  unfold S8
  split <;> simp only [Int.bmod_def] <;> omega
theorem q_s16' {v : Nat} (h : v < 65536) : (nI v).toInt16.toInt32 = iI (S16 v) := q_s16 h
/-- a part's number: of 16 bits or 8, with or without a sign -/
def NW (fl : Nat) : Nat := if BT fl 0 then 2 else 1
def NV (F : Nat → Nat) (fl p : Nat) : Int := if BT fl 0 then (if BT fl 1 then S16 (256 * F p + F (p + 1)) else ((256 * F p + F (p + 1) : Nat) : Int)) else (if BT fl 1 then S8 (F p) else (F p : Int))
set_option maxRecDepth 100000 in
set_option maxHeartbeats 4000000 in
theorem c_Pa_number {G : q_G} {l : Launch} {dd o cu f row m n sz p e fl : Nat} {ro ch p0 q0 a b c d : Int32} {g : Nat → Int32} {F : Nat → Nat} {h : q_H} {Q : q_P} (hP : h o = some (e_Pa cu (nI fl) ch p0 q0 a b c d)) (hf : fl < 65536) (hC : q_Cu h cu f p e ro) (hB : q_By h f row m g sz F) (he : e ≤ sz) (hpe : p ≤ e)
    (q1 : p + NW fl ≤ e → Q (some (.int (iI (NV F fl p)))) (q_set h cu (e_Cu f (p + NW fl) e ro)) n) (q2 : e < p + NW fl → Q (some (.int 0)) (q_set h cu (e_Cu f p e 1)) n) : q_Call G l M_Pa_number (dd + 1) 0 0 [.ref o] h n Q := by
  have hF := hB.2.2.2.2.2.2
  have hP' := hP
  unfold e_Pa at hP'
  have hcu : h cu = some (.inr (2, [.ref f, .int (nI p), .int (nI e), .int ro])) := hC
  have hoc : o ≠ cu := fun q => by rw [q, hcu] at hP'; cases hP'
  unfold NW at q1 q2
  unfold NV at q1
  refine q_in u_Pa_number (by rw [L_Pa_number]; exact Nat.le_of_ble_eq_true rfl) ?_
  rw [L_Pa_number]
  refine q_at o_Pa_number [] 20 l_Pa_number_0 ?_
  simp -implicitDefEqProofs only [s_go, s_nil, s_cons, q_ins, s_op, s_i, s_j, s_a, s_v, s_li, s_lj, s_la, s_liO, s_ljO, s_laO, q_get, q_p1, q_p2, s_n2i, s_n2r, s_n2l, s_n2n, q_pad, q_ar, s_ob, s_obO, q_nth, s_ri, s_riO, s_rb, s_rbO, s_rzO, s_rl, s_rlO, s_rq, s_rqO, s_ry, s_ryO, s_dn, s_tl, s_tn, s_ap, s_an, s_ci, s_cr, s_ni, s_n0, s_n1, q_ags, q_cat, List.contains_nil, List.contains_cons, Nat.reduceBEq, Bool.or_false, Bool.false_or, Bool.true_or, Bool.false_eq_true, ↓reduceIte, Nat.le_refl, Nat.zero_le, true_and, and_true, Nat.reduceLeDiff, Nat.reduceAdd, Nat.add_zero, Nat.zero_add, List.length_cons, List.length_nil, List.set_cons_zero, List.set_cons_succ, Nat.reduceLT, s_fi, s_fl, s_fo, s_fa, s_f0, s_f1, s_set, s_ss, lg_cmp_ge, lg_cmp_le, lg_cmp_gt, lg_cmp_lt, lg_cmp_eq, s_brT, s_brF, s_10, w_Pa_number, r_Pa_number, l_Pa_number_0, l_Pa_number_29, l_Pa_number_30, l_Pa_number_31, l_Pa_number_52, l_Pa_number_53, kc_1, ml_5_53, w_Pa_has, f_5_14, ml_5_24, w_Cu_u16, kc_2, ml_5_57, w_Cu_u8, hP', hcu]
  refine q_c0 (Nat.le_refl _) (Nat.le_refl _) ?_
  refine c_Pa_has (k := 0) hP hf (by omega) (fun b0 => ?_) (fun b0 => ?_)
  · simp -implicitDefEqProofs only [s_go, s_nil, s_cons, q_ins, s_op, s_i, s_j, s_a, s_v, s_li, s_lj, s_la, s_liO, s_ljO, s_laO, q_get, q_p1, q_p2, s_n2i, s_n2r, s_n2l, s_n2n, q_pad, q_ar, s_ob, s_obO, q_nth, s_ri, s_riO, s_rb, s_rbO, s_rzO, s_rl, s_rlO, s_rq, s_rqO, s_ry, s_ryO, s_dn, s_tl, s_tn, s_ap, s_an, s_ci, s_cr, s_ni, s_n0, s_n1, q_ags, q_cat, List.contains_nil, List.contains_cons, Nat.reduceBEq, Bool.or_false, Bool.false_or, Bool.true_or, Bool.false_eq_true, ↓reduceIte, Nat.le_refl, Nat.zero_le, true_and, and_true, Nat.reduceLeDiff, Nat.reduceAdd, Nat.add_zero, Nat.zero_add, List.length_cons, List.length_nil, List.set_cons_zero, List.set_cons_succ, Nat.reduceLT, s_fi, s_fl, s_fo, s_fa, s_f0, s_f1, s_set, s_ss, lg_cmp_ge, lg_cmp_le, lg_cmp_gt, lg_cmp_lt, lg_cmp_eq, s_brT, s_brF, s_10, w_Pa_number, r_Pa_number, l_Pa_number_0, l_Pa_number_29, l_Pa_number_30, l_Pa_number_31, l_Pa_number_52, l_Pa_number_53, kc_1, ml_5_53, w_Pa_has, f_5_14, ml_5_24, w_Cu_u16, kc_2, ml_5_57, w_Cu_u8, hP', hcu]
    refine q_c0 (Nat.le_refl _) (Nat.le_refl _) ?_
    rw [if_pos b0] at q1 q2
    rw [if_pos b0] at q1
    refine c_Cu_u16 hC hB he hpe (fun hl => ?_) (fun hl => ?_)
    · have q1 := q1 hl
      simp -implicitDefEqProofs only [s_go, s_nil, s_cons, q_ins, s_op, s_i, s_j, s_a, s_v, s_li, s_lj, s_la, s_liO, s_ljO, s_laO, q_get, q_p1, q_p2, s_n2i, s_n2r, s_n2l, s_n2n, q_pad, q_ar, s_ob, s_obO, q_nth, s_ri, s_riO, s_rb, s_rbO, s_rzO, s_rl, s_rlO, s_rq, s_rqO, s_ry, s_ryO, s_dn, s_tl, s_tn, s_ap, s_an, s_ci, s_cr, s_ni, s_n0, s_n1, q_ags, q_cat, List.contains_nil, List.contains_cons, Nat.reduceBEq, Bool.or_false, Bool.false_or, Bool.true_or, Bool.false_eq_true, ↓reduceIte, Nat.le_refl, Nat.zero_le, true_and, and_true, Nat.reduceLeDiff, Nat.reduceAdd, Nat.add_zero, Nat.zero_add, List.length_cons, List.length_nil, List.set_cons_zero, List.set_cons_succ, Nat.reduceLT, s_fi, s_fl, s_fo, s_fa, s_f0, s_f1, s_set, s_ss, lg_cmp_ge, lg_cmp_le, lg_cmp_gt, lg_cmp_lt, lg_cmp_eq, s_brT, s_brF, s_10, w_Pa_number, r_Pa_number, l_Pa_number_0, l_Pa_number_29, l_Pa_number_30, l_Pa_number_31, l_Pa_number_52, l_Pa_number_53, kc_1, ml_5_53, w_Pa_has, f_5_14, ml_5_24, w_Cu_u16, kc_2, ml_5_57, w_Cu_u8, hP', hcu, s_ne _ _ hoc]
      refine q_c0 (Nat.le_refl _) (Nat.le_refl _) ?_
      refine c_Pa_has (k := 1) (by rw [s_ne _ _ hoc]; exact hP) hf (by omega) (fun b1 => ?_) (fun b1 => ?_)
      · rw [if_pos b1] at q1
        simp -implicitDefEqProofs only [s_go, s_nil, s_cons, q_ins, s_op, s_i, s_j, s_a, s_v, s_li, s_lj, s_la, s_liO, s_ljO, s_laO, q_get, q_p1, q_p2, s_n2i, s_n2r, s_n2l, s_n2n, q_pad, q_ar, s_ob, s_obO, q_nth, s_ri, s_riO, s_rb, s_rbO, s_rzO, s_rl, s_rlO, s_rq, s_rqO, s_ry, s_ryO, s_dn, s_tl, s_tn, s_ap, s_an, s_ci, s_cr, s_ni, s_n0, s_n1, q_ags, q_cat, List.contains_nil, List.contains_cons, Nat.reduceBEq, Bool.or_false, Bool.false_or, Bool.true_or, Bool.false_eq_true, ↓reduceIte, Nat.le_refl, Nat.zero_le, true_and, and_true, Nat.reduceLeDiff, Nat.reduceAdd, Nat.add_zero, Nat.zero_add, List.length_cons, List.length_nil, List.set_cons_zero, List.set_cons_succ, Nat.reduceLT, s_fi, s_fl, s_fo, s_fa, s_f0, s_f1, s_set, s_ss, lg_cmp_ge, lg_cmp_le, lg_cmp_gt, lg_cmp_lt, lg_cmp_eq, s_brT, s_brF, s_10, w_Pa_number, r_Pa_number, l_Pa_number_0, l_Pa_number_29, l_Pa_number_30, l_Pa_number_31, l_Pa_number_52, l_Pa_number_53, kc_1, ml_5_53, w_Pa_has, f_5_14, ml_5_24, w_Cu_u16, kc_2, ml_5_57, w_Cu_u8, q_s16' (show 256 * F p + F (p + 1) < 65536 by have := hF p; have := hF (p + 1); omega)]
        exact q1
      · rw [if_neg b1] at q1
        simp -implicitDefEqProofs only [s_go, s_nil, s_cons, q_ins, s_op, s_i, s_j, s_a, s_v, s_li, s_lj, s_la, s_liO, s_ljO, s_laO, q_get, q_p1, q_p2, s_n2i, s_n2r, s_n2l, s_n2n, q_pad, q_ar, s_ob, s_obO, q_nth, s_ri, s_riO, s_rb, s_rbO, s_rzO, s_rl, s_rlO, s_rq, s_rqO, s_ry, s_ryO, s_dn, s_tl, s_tn, s_ap, s_an, s_ci, s_cr, s_ni, s_n0, s_n1, q_ags, q_cat, List.contains_nil, List.contains_cons, Nat.reduceBEq, Bool.or_false, Bool.false_or, Bool.true_or, Bool.false_eq_true, ↓reduceIte, Nat.le_refl, Nat.zero_le, true_and, and_true, Nat.reduceLeDiff, Nat.reduceAdd, Nat.add_zero, Nat.zero_add, List.length_cons, List.length_nil, List.set_cons_zero, List.set_cons_succ, Nat.reduceLT, s_fi, s_fl, s_fo, s_fa, s_f0, s_f1, s_set, s_ss, lg_cmp_ge, lg_cmp_le, lg_cmp_gt, lg_cmp_lt, lg_cmp_eq, s_brT, s_brF, s_10, w_Pa_number, r_Pa_number, l_Pa_number_0, l_Pa_number_29, l_Pa_number_30, l_Pa_number_31, l_Pa_number_52, l_Pa_number_53, kc_1, ml_5_53, w_Pa_has, f_5_14, ml_5_24, w_Cu_u16, kc_2, ml_5_57, w_Cu_u8]
        exact q1
    · have q2 := q2 hl
      simp -implicitDefEqProofs only [s_go, s_nil, s_cons, q_ins, s_op, s_i, s_j, s_a, s_v, s_li, s_lj, s_la, s_liO, s_ljO, s_laO, q_get, q_p1, q_p2, s_n2i, s_n2r, s_n2l, s_n2n, q_pad, q_ar, s_ob, s_obO, q_nth, s_ri, s_riO, s_rb, s_rbO, s_rzO, s_rl, s_rlO, s_rq, s_rqO, s_ry, s_ryO, s_dn, s_tl, s_tn, s_ap, s_an, s_ci, s_cr, s_ni, s_n0, s_n1, q_ags, q_cat, List.contains_nil, List.contains_cons, Nat.reduceBEq, Bool.or_false, Bool.false_or, Bool.true_or, Bool.false_eq_true, ↓reduceIte, Nat.le_refl, Nat.zero_le, true_and, and_true, Nat.reduceLeDiff, Nat.reduceAdd, Nat.add_zero, Nat.zero_add, List.length_cons, List.length_nil, List.set_cons_zero, List.set_cons_succ, Nat.reduceLT, s_fi, s_fl, s_fo, s_fa, s_f0, s_f1, s_set, s_ss, lg_cmp_ge, lg_cmp_le, lg_cmp_gt, lg_cmp_lt, lg_cmp_eq, s_brT, s_brF, s_10, w_Pa_number, r_Pa_number, l_Pa_number_0, l_Pa_number_29, l_Pa_number_30, l_Pa_number_31, l_Pa_number_52, l_Pa_number_53, kc_1, ml_5_53, w_Pa_has, f_5_14, ml_5_24, w_Cu_u16, kc_2, ml_5_57, w_Cu_u8, hP', hcu, s_ne _ _ hoc]
      refine q_c0 (Nat.le_refl _) (Nat.le_refl _) ?_
      refine c_Pa_has (k := 1) (by rw [s_ne _ _ hoc]; exact hP) hf (by omega) (fun b1 => ?_) (fun b1 => ?_)
      · simp -implicitDefEqProofs only [s_go, s_nil, s_cons, q_ins, s_op, s_i, s_j, s_a, s_v, s_li, s_lj, s_la, s_liO, s_ljO, s_laO, q_get, q_p1, q_p2, s_n2i, s_n2r, s_n2l, s_n2n, q_pad, q_ar, s_ob, s_obO, q_nth, s_ri, s_riO, s_rb, s_rbO, s_rzO, s_rl, s_rlO, s_rq, s_rqO, s_ry, s_ryO, s_dn, s_tl, s_tn, s_ap, s_an, s_ci, s_cr, s_ni, s_n0, s_n1, q_ags, q_cat, List.contains_nil, List.contains_cons, Nat.reduceBEq, Bool.or_false, Bool.false_or, Bool.true_or, Bool.false_eq_true, ↓reduceIte, Nat.le_refl, Nat.zero_le, true_and, and_true, Nat.reduceLeDiff, Nat.reduceAdd, Nat.add_zero, Nat.zero_add, List.length_cons, List.length_nil, List.set_cons_zero, List.set_cons_succ, Nat.reduceLT, s_fi, s_fl, s_fo, s_fa, s_f0, s_f1, s_set, s_ss, lg_cmp_ge, lg_cmp_le, lg_cmp_gt, lg_cmp_lt, lg_cmp_eq, s_brT, s_brF, s_10, w_Pa_number, r_Pa_number, l_Pa_number_0, l_Pa_number_29, l_Pa_number_30, l_Pa_number_31, l_Pa_number_52, l_Pa_number_53, kc_1, ml_5_53, w_Pa_has, f_5_14, ml_5_24, w_Cu_u16, kc_2, ml_5_57, w_Cu_u8, show (0 : Int32).toInt16.toInt32 = 0 from rfl]
        exact q2
      · simp -implicitDefEqProofs only [s_go, s_nil, s_cons, q_ins, s_op, s_i, s_j, s_a, s_v, s_li, s_lj, s_la, s_liO, s_ljO, s_laO, q_get, q_p1, q_p2, s_n2i, s_n2r, s_n2l, s_n2n, q_pad, q_ar, s_ob, s_obO, q_nth, s_ri, s_riO, s_rb, s_rbO, s_rzO, s_rl, s_rlO, s_rq, s_rqO, s_ry, s_ryO, s_dn, s_tl, s_tn, s_ap, s_an, s_ci, s_cr, s_ni, s_n0, s_n1, q_ags, q_cat, List.contains_nil, List.contains_cons, Nat.reduceBEq, Bool.or_false, Bool.false_or, Bool.true_or, Bool.false_eq_true, ↓reduceIte, Nat.le_refl, Nat.zero_le, true_and, and_true, Nat.reduceLeDiff, Nat.reduceAdd, Nat.add_zero, Nat.zero_add, List.length_cons, List.length_nil, List.set_cons_zero, List.set_cons_succ, Nat.reduceLT, s_fi, s_fl, s_fo, s_fa, s_f0, s_f1, s_set, s_ss, lg_cmp_ge, lg_cmp_le, lg_cmp_gt, lg_cmp_lt, lg_cmp_eq, s_brT, s_brF, s_10, w_Pa_number, r_Pa_number, l_Pa_number_0, l_Pa_number_29, l_Pa_number_30, l_Pa_number_31, l_Pa_number_52, l_Pa_number_53, kc_1, ml_5_53, w_Pa_has, f_5_14, ml_5_24, w_Cu_u16, kc_2, ml_5_57, w_Cu_u8]
        exact q2
  · simp -implicitDefEqProofs only [s_go, s_nil, s_cons, q_ins, s_op, s_i, s_j, s_a, s_v, s_li, s_lj, s_la, s_liO, s_ljO, s_laO, q_get, q_p1, q_p2, s_n2i, s_n2r, s_n2l, s_n2n, q_pad, q_ar, s_ob, s_obO, q_nth, s_ri, s_riO, s_rb, s_rbO, s_rzO, s_rl, s_rlO, s_rq, s_rqO, s_ry, s_ryO, s_dn, s_tl, s_tn, s_ap, s_an, s_ci, s_cr, s_ni, s_n0, s_n1, q_ags, q_cat, List.contains_nil, List.contains_cons, Nat.reduceBEq, Bool.or_false, Bool.false_or, Bool.true_or, Bool.false_eq_true, ↓reduceIte, Nat.le_refl, Nat.zero_le, true_and, and_true, Nat.reduceLeDiff, Nat.reduceAdd, Nat.add_zero, Nat.zero_add, List.length_cons, List.length_nil, List.set_cons_zero, List.set_cons_succ, Nat.reduceLT, s_fi, s_fl, s_fo, s_fa, s_f0, s_f1, s_set, s_ss, lg_cmp_ge, lg_cmp_le, lg_cmp_gt, lg_cmp_lt, lg_cmp_eq, s_brT, s_brF, s_10, w_Pa_number, r_Pa_number, l_Pa_number_0, l_Pa_number_29, l_Pa_number_30, l_Pa_number_31, l_Pa_number_52, l_Pa_number_53, kc_1, ml_5_53, w_Pa_has, f_5_14, ml_5_24, w_Cu_u16, kc_2, ml_5_57, w_Cu_u8, hP', hcu]
    refine q_c0 (Nat.le_refl _) (Nat.le_refl _) ?_
    rw [if_neg b0] at q1 q2
    rw [if_neg b0] at q1
    refine c_Cu_u8 hC hB he hpe (fun hl => ?_) (fun hl => ?_)
    · have q1 := q1 hl
      simp -implicitDefEqProofs only [s_go, s_nil, s_cons, q_ins, s_op, s_i, s_j, s_a, s_v, s_li, s_lj, s_la, s_liO, s_ljO, s_laO, q_get, q_p1, q_p2, s_n2i, s_n2r, s_n2l, s_n2n, q_pad, q_ar, s_ob, s_obO, q_nth, s_ri, s_riO, s_rb, s_rbO, s_rzO, s_rl, s_rlO, s_rq, s_rqO, s_ry, s_ryO, s_dn, s_tl, s_tn, s_ap, s_an, s_ci, s_cr, s_ni, s_n0, s_n1, q_ags, q_cat, List.contains_nil, List.contains_cons, Nat.reduceBEq, Bool.or_false, Bool.false_or, Bool.true_or, Bool.false_eq_true, ↓reduceIte, Nat.le_refl, Nat.zero_le, true_and, and_true, Nat.reduceLeDiff, Nat.reduceAdd, Nat.add_zero, Nat.zero_add, List.length_cons, List.length_nil, List.set_cons_zero, List.set_cons_succ, Nat.reduceLT, s_fi, s_fl, s_fo, s_fa, s_f0, s_f1, s_set, s_ss, lg_cmp_ge, lg_cmp_le, lg_cmp_gt, lg_cmp_lt, lg_cmp_eq, s_brT, s_brF, s_10, w_Pa_number, r_Pa_number, l_Pa_number_0, l_Pa_number_29, l_Pa_number_30, l_Pa_number_31, l_Pa_number_52, l_Pa_number_53, kc_1, ml_5_53, w_Pa_has, f_5_14, ml_5_24, w_Cu_u16, kc_2, ml_5_57, w_Cu_u8, hP', hcu, s_ne _ _ hoc]
      refine q_c0 (Nat.le_refl _) (Nat.le_refl _) ?_
      refine c_Pa_has (k := 1) (by rw [s_ne _ _ hoc]; exact hP) hf (by omega) (fun b1 => ?_) (fun b1 => ?_)
      · rw [if_pos b1] at q1
        simp -implicitDefEqProofs only [s_go, s_nil, s_cons, q_ins, s_op, s_i, s_j, s_a, s_v, s_li, s_lj, s_la, s_liO, s_ljO, s_laO, q_get, q_p1, q_p2, s_n2i, s_n2r, s_n2l, s_n2n, q_pad, q_ar, s_ob, s_obO, q_nth, s_ri, s_riO, s_rb, s_rbO, s_rzO, s_rl, s_rlO, s_rq, s_rqO, s_ry, s_ryO, s_dn, s_tl, s_tn, s_ap, s_an, s_ci, s_cr, s_ni, s_n0, s_n1, q_ags, q_cat, List.contains_nil, List.contains_cons, Nat.reduceBEq, Bool.or_false, Bool.false_or, Bool.true_or, Bool.false_eq_true, ↓reduceIte, Nat.le_refl, Nat.zero_le, true_and, and_true, Nat.reduceLeDiff, Nat.reduceAdd, Nat.add_zero, Nat.zero_add, List.length_cons, List.length_nil, List.set_cons_zero, List.set_cons_succ, Nat.reduceLT, s_fi, s_fl, s_fo, s_fa, s_f0, s_f1, s_set, s_ss, lg_cmp_ge, lg_cmp_le, lg_cmp_gt, lg_cmp_lt, lg_cmp_eq, s_brT, s_brF, s_10, w_Pa_number, r_Pa_number, l_Pa_number_0, l_Pa_number_29, l_Pa_number_30, l_Pa_number_31, l_Pa_number_52, l_Pa_number_53, kc_1, ml_5_53, w_Pa_has, f_5_14, ml_5_24, w_Cu_u16, kc_2, ml_5_57, w_Cu_u8, q_s8 (hF p)]
        exact q1
      · rw [if_neg b1] at q1
        simp -implicitDefEqProofs only [s_go, s_nil, s_cons, q_ins, s_op, s_i, s_j, s_a, s_v, s_li, s_lj, s_la, s_liO, s_ljO, s_laO, q_get, q_p1, q_p2, s_n2i, s_n2r, s_n2l, s_n2n, q_pad, q_ar, s_ob, s_obO, q_nth, s_ri, s_riO, s_rb, s_rbO, s_rzO, s_rl, s_rlO, s_rq, s_rqO, s_ry, s_ryO, s_dn, s_tl, s_tn, s_ap, s_an, s_ci, s_cr, s_ni, s_n0, s_n1, q_ags, q_cat, List.contains_nil, List.contains_cons, Nat.reduceBEq, Bool.or_false, Bool.false_or, Bool.true_or, Bool.false_eq_true, ↓reduceIte, Nat.le_refl, Nat.zero_le, true_and, and_true, Nat.reduceLeDiff, Nat.reduceAdd, Nat.add_zero, Nat.zero_add, List.length_cons, List.length_nil, List.set_cons_zero, List.set_cons_succ, Nat.reduceLT, s_fi, s_fl, s_fo, s_fa, s_f0, s_f1, s_set, s_ss, lg_cmp_ge, lg_cmp_le, lg_cmp_gt, lg_cmp_lt, lg_cmp_eq, s_brT, s_brF, s_10, w_Pa_number, r_Pa_number, l_Pa_number_0, l_Pa_number_29, l_Pa_number_30, l_Pa_number_31, l_Pa_number_52, l_Pa_number_53, kc_1, ml_5_53, w_Pa_has, f_5_14, ml_5_24, w_Cu_u16, kc_2, ml_5_57, w_Cu_u8]
        exact q1
    · have q2 := q2 (by omega)
      simp -implicitDefEqProofs only [s_go, s_nil, s_cons, q_ins, s_op, s_i, s_j, s_a, s_v, s_li, s_lj, s_la, s_liO, s_ljO, s_laO, q_get, q_p1, q_p2, s_n2i, s_n2r, s_n2l, s_n2n, q_pad, q_ar, s_ob, s_obO, q_nth, s_ri, s_riO, s_rb, s_rbO, s_rzO, s_rl, s_rlO, s_rq, s_rqO, s_ry, s_ryO, s_dn, s_tl, s_tn, s_ap, s_an, s_ci, s_cr, s_ni, s_n0, s_n1, q_ags, q_cat, List.contains_nil, List.contains_cons, Nat.reduceBEq, Bool.or_false, Bool.false_or, Bool.true_or, Bool.false_eq_true, ↓reduceIte, Nat.le_refl, Nat.zero_le, true_and, and_true, Nat.reduceLeDiff, Nat.reduceAdd, Nat.add_zero, Nat.zero_add, List.length_cons, List.length_nil, List.set_cons_zero, List.set_cons_succ, Nat.reduceLT, s_fi, s_fl, s_fo, s_fa, s_f0, s_f1, s_set, s_ss, lg_cmp_ge, lg_cmp_le, lg_cmp_gt, lg_cmp_lt, lg_cmp_eq, s_brT, s_brF, s_10, w_Pa_number, r_Pa_number, l_Pa_number_0, l_Pa_number_29, l_Pa_number_30, l_Pa_number_31, l_Pa_number_52, l_Pa_number_53, kc_1, ml_5_53, w_Pa_has, f_5_14, ml_5_24, w_Cu_u16, kc_2, ml_5_57, w_Cu_u8, hP', hcu, s_ne _ _ hoc]
      refine q_c0 (Nat.le_refl _) (Nat.le_refl _) ?_
      refine c_Pa_has (k := 1) (by rw [s_ne _ _ hoc]; exact hP) hf (by omega) (fun b1 => ?_) (fun b1 => ?_)
      · simp -implicitDefEqProofs only [s_go, s_nil, s_cons, q_ins, s_op, s_i, s_j, s_a, s_v, s_li, s_lj, s_la, s_liO, s_ljO, s_laO, q_get, q_p1, q_p2, s_n2i, s_n2r, s_n2l, s_n2n, q_pad, q_ar, s_ob, s_obO, q_nth, s_ri, s_riO, s_rb, s_rbO, s_rzO, s_rl, s_rlO, s_rq, s_rqO, s_ry, s_ryO, s_dn, s_tl, s_tn, s_ap, s_an, s_ci, s_cr, s_ni, s_n0, s_n1, q_ags, q_cat, List.contains_nil, List.contains_cons, Nat.reduceBEq, Bool.or_false, Bool.false_or, Bool.true_or, Bool.false_eq_true, ↓reduceIte, Nat.le_refl, Nat.zero_le, true_and, and_true, Nat.reduceLeDiff, Nat.reduceAdd, Nat.add_zero, Nat.zero_add, List.length_cons, List.length_nil, List.set_cons_zero, List.set_cons_succ, Nat.reduceLT, s_fi, s_fl, s_fo, s_fa, s_f0, s_f1, s_set, s_ss, lg_cmp_ge, lg_cmp_le, lg_cmp_gt, lg_cmp_lt, lg_cmp_eq, s_brT, s_brF, s_10, w_Pa_number, r_Pa_number, l_Pa_number_0, l_Pa_number_29, l_Pa_number_30, l_Pa_number_31, l_Pa_number_52, l_Pa_number_53, kc_1, ml_5_53, w_Pa_has, f_5_14, ml_5_24, w_Cu_u16, kc_2, ml_5_57, w_Cu_u8, show (0 : Int32).toInt8.toInt32 = 0 from rfl]
        exact q2
      · simp -implicitDefEqProofs only [s_go, s_nil, s_cons, q_ins, s_op, s_i, s_j, s_a, s_v, s_li, s_lj, s_la, s_liO, s_ljO, s_laO, q_get, q_p1, q_p2, s_n2i, s_n2r, s_n2l, s_n2n, q_pad, q_ar, s_ob, s_obO, q_nth, s_ri, s_riO, s_rb, s_rbO, s_rzO, s_rl, s_rlO, s_rq, s_rqO, s_ry, s_ryO, s_dn, s_tl, s_tn, s_ap, s_an, s_ci, s_cr, s_ni, s_n0, s_n1, q_ags, q_cat, List.contains_nil, List.contains_cons, Nat.reduceBEq, Bool.or_false, Bool.false_or, Bool.true_or, Bool.false_eq_true, ↓reduceIte, Nat.le_refl, Nat.zero_le, true_and, and_true, Nat.reduceLeDiff, Nat.reduceAdd, Nat.add_zero, Nat.zero_add, List.length_cons, List.length_nil, List.set_cons_zero, List.set_cons_succ, Nat.reduceLT, s_fi, s_fl, s_fo, s_fa, s_f0, s_f1, s_set, s_ss, lg_cmp_ge, lg_cmp_le, lg_cmp_gt, lg_cmp_lt, lg_cmp_eq, s_brT, s_brF, s_10, w_Pa_number, r_Pa_number, l_Pa_number_0, l_Pa_number_29, l_Pa_number_30, l_Pa_number_31, l_Pa_number_52, l_Pa_number_53, kc_1, ml_5_53, w_Pa_has, f_5_14, ml_5_24, w_Cu_u16, kc_2, ml_5_57, w_Cu_u8]
        exact q2
