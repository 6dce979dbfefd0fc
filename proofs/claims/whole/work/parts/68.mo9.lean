/-! the reference: arrays by their entries; turned, isCoordinate -/
def ar (h : q_H) (a j : Nat) : Int32 := match h a with
  | some (.inl (_, _, .inl g)) => g j
  | _ => 0
def wr (h : q_H) (a i : Nat) (x : Int32) : q_H := fun b => if b = a then (match h a with
  | some (.inl (kd, m, .inl g)) => some (.inl (kd, m, .inl (upd g i x)))
  | o => o) else h b
def MK (k : Nat) : Nat := if k = 8 ∨ k = 17 then 3 else 0
def MZ (k : Nat) : Nat := if k < 10 then 3072 else if k = 10 then 256 else 6
def MoE (h : q_H) (y : Nat) : Prop := ∀ k, 6 ≤ k → k ≤ 24 → ∃ g : Nat → Int32, h (y + k) = some (.inl (MK k, MZ k, .inl g))
theorem ar_e {h : q_H} {a j kd m : Nat} {g : Nat → Int32} (e : h a = some (.inl (kd, m, .inl g))) : ar h a j = g j := by unfold ar; rw [e]
theorem ar_h {h h' : q_H} {a j : Nat} (e : h' a = h a) : ar h' a j = ar h a j := by unfold ar; rw [e]
theorem wr_of {h : q_H} {a i kd m : Nat} {g : Nat → Int32} {x : Int32} (e : h a = some (.inl (kd, m, .inl g))) : q_set h a (.inl (kd, m, .inl (upd g i x))) = wr h a i x := by
  funext b
  unfold wr q_set
  rw [e]
theorem wr_o {h : q_H} {a b i : Nat} {x : Int32} (hb : b ≠ a) : wr h a i x b = h b := if_neg hb
theorem wr_ar {h : q_H} {a i : Nat} {x : Int32} (e : ∃ kd m, ∃ g : Nat → Int32, h a = some (.inl (kd, m, .inl g))) : ar (wr h a i x) a i = x := by
  obtain ⟨kd, m, g, e⟩ := e
  rw [← wr_of e, ar_e (s_set _ _ _)]
  exact pk_us
theorem wr_an {h : q_H} {a b i j : Nat} {x : Int32} (hn : b ≠ a ∨ j ≠ i) : ar (wr h a i x) b j = ar h b j := by
  by_cases c : b = a
  · have hj : j ≠ i := by rcases hn with z | z; exact absurd c z; exact z
    subst c
    unfold ar wr
    rw [if_pos rfl]
    cases e : h b with
    | none => rfl
    | some q =>
      obtain ⟨kd, m, v⟩ | o := q
      · obtain g | v := v
        · exact pk_un hj
        · rfl
      · rfl
  · exact ar_h (wr_o c)
theorem MoE.up {h : q_H} {y a i : Nat} {x : Int32} (E : MoE h y) : MoE (wr h a i x) y := by
  intro k h1 h2
  obtain ⟨g, e⟩ := E k h1 h2
  by_cases c : y + k = a
  · subst c
    rw [← wr_of e]
    exact ⟨_, s_set _ _ _⟩
  · rw [wr_o c]
    exact ⟨g, e⟩
theorem MoE.at {h : q_H} {y k : Nat} (E : MoE h y) (h1 : 6 ≤ k) (h2 : k ≤ 24) : ∃ kd m, ∃ g : Nat → Int32, h (y + k) = some (.inl (kd, m, .inl g)) := by
  obtain ⟨g, e⟩ := E k h1 h2
  exact ⟨_, _, g, e⟩
/-- an entry that was written -/
theorem MoE.w {h : q_H} {y k i : Nat} {x : Int32} (E : MoE h y) (h1 : 6 ≤ k) (h2 : k ≤ 24) : ar (wr h (y + k) i x) (y + k) i = x := wr_ar (E.at h1 h2)
theorem lI_N (n : Nat) : lI (n : Int) = lN n := rfl
theorem lI_nat {z : Int} (h : 0 ≤ z) : lI z = lN z.toNat := by
  rw [← lI_N, Int.toNat_of_nonneg h]
theorem lI_neg (a : Int) : -lI a = lI (-a) := (Int64.ofInt_neg a).symm
theorem lI_sub (a b : Int) : lI a - lI b = lI (a - b) := (Int64.ofInt_sub a b).symm
theorem lI_lt {a b : Int} (h1 : -9223372036854775808 ≤ a) (h2 : a < 9223372036854775808) (h3 : -9223372036854775808 ≤ b) (h4 : b < 9223372036854775808) : lI a < lI b ↔ a < b := by
  rw [Int64.lt_iff_toInt_lt, lI_toInt h1 h2, lI_toInt h3 h4]
set_option maxRecDepth 100000 in
set_option maxHeartbeats 4000000 in
theorem c_Mo_turned {G : q_G} {l : Launch} {d n : Nat} {a x c y : Int} {h : q_H} {Q : q_P} (ha : q_sm a) (hx : q_sm x) (hc : q_sm c) (hy : q_sm y) (hq : Q (some (.long (lI (TR a x c y)))) h n) : q_Call G l M_Mo_turned d 0 0 [.int (iI a), .int (iI x), .int (iI c), .int (iI y)] h n Q := by
  have m1 := q_mulb ha hx
  have m2 := q_mulb hc hy
  unfold TR at hq
  generalize hv : a * x + c * y = v at hq
  have e1 : (iI a).toInt64 * (iI x).toInt64 + (iI c).toInt64 * (iI y).toInt64 = lI v := by
    rw [iI_l (by have := ha.1; omega) (by have := ha.2; omega), iI_l (by have := hx.1; omega) (by have := hx.2; omega), iI_l (by have := hc.1; omega) (by have := hc.2; omega), iI_l (by have := hy.1; omega) (by have := hy.2; omega), lI_mul, lI_mul, lI_add, hv]
  have b1 : -2147483648 ≤ v := by rw [← hv]; omega
  have b2 : v ≤ 2147483648 := by rw [← hv]; omega
  refine q_in u_Mo_turned (by rw [L_Mo_turned]; exact Nat.le_of_ble_eq_true rfl) ?_
  rw [L_Mo_turned]
  refine q_at o_Mo_turned [] 20 l_Mo_turned_0 ?_
  simp -implicitDefEqProofs only [s_go, s_nil, s_cons, q_ins, s_op, s_i, s_j, s_a, s_v, s_li, s_lj, s_la, s_liO, s_ljO, s_laO, q_get, q_p1, q_p2, s_n2i, s_n2r, s_n2l, s_n2n, q_pad, q_ar, s_ob, s_obO, q_nth, s_ri, s_riO, s_rb, s_rbO, s_rzO, s_rl, s_rlO, s_rq, s_rqO, s_ry, s_ryO, s_dn, s_tl, s_tn, s_ap, s_an, s_ci, s_cr, s_ni, s_n0, s_n1, q_ags, q_cat, List.contains_nil, List.contains_cons, Nat.reduceBEq, Bool.or_false, Bool.false_or, Bool.true_or, Bool.false_eq_true, ↓reduceIte, Nat.le_refl, Nat.zero_le, true_and, and_true, Nat.reduceLeDiff, Nat.reduceAdd, Nat.add_zero, Nat.zero_add, List.length_cons, List.length_nil, List.set_cons_zero, List.set_cons_succ, Nat.reduceLT, s_fi, s_fl, s_fo, s_fa, s_f0, s_f1, s_set, s_ss, lg_cmp_ge, lg_cmp_le, lg_cmp_gt, lg_cmp_lt, lg_cmp_eq, s_brT, s_brF, s_10, w_Mo_turned, r_Mo_turned, l_Mo_turned_0, l_Mo_turned_29, l_Mo_turned_41, kj_0, kl_8_294, kl_8_245, e1]
  have lt0 : lI v < 0 ↔ v < 0 := lI_lt (b := 0) (by omega) (by omega) (by omega) (by omega)
  refine ⟨fun z => ?_, fun z => ?_⟩
  · have z := lt0.mp z
    refine ⟨by decide, ?_⟩
    rw [lI_neg, show lI (-v) + 16383 = lI (-v + 16383) from lI_add (-v) 16383, lI_nat (by omega), show (16384 : Int64) = lN 16384 from rfl, pk_lDiv (by omega) (by omega) (by omega), ← lI_N, lI_neg, show -(((-v + 16383).toNat / 16384 : Nat) : Int) = v / 16384 by omega]
    exact hq
  · have z : 0 ≤ v := by
      rcases Int.lt_or_le v 0 with y | y
      · exact absurd (lt0.mpr y) z
      · exact y
    refine ⟨by decide, ?_⟩
    rw [lI_nat z, show (16384 : Int64) = lN 16384 from rfl, pk_lDiv (by omega) (by omega) (by omega), ← lI_N, show ((v.toNat / 16384 : Nat) : Int) = v / 16384 by omega]
    exact hq
set_option maxRecDepth 100000 in
set_option maxHeartbeats 4000000 in
theorem c_Mo_isCoordinate {G : q_G} {l : Launch} {d n : Nat} {z : Int} {h : q_H} {Q : q_P} (h1 : -1000000000 ≤ z) (h2 : z ≤ 1000000000) (hq : Q (some (.int (bI (decide (-16384 ≤ z ∧ z ≤ 16383))))) h n) : q_Call G l M_Mo_isCoordinate d 0 0 [.long (lI z)] h n Q := by
  have c1 : lI z < -16384 ↔ z < -16384 := lI_lt (b := -16384) (by omega) (by omega) (by omega) (by omega)
  have c2 : 16383 < lI z ↔ 16383 < z := lI_lt (a := 16383) (by omega) (by omega) (by omega) (by omega)
  refine q_in u_Mo_isCoordinate (by rw [L_Mo_isCoordinate]; exact Nat.le_of_ble_eq_true rfl) ?_
  rw [L_Mo_isCoordinate]
  refine q_at o_Mo_isCoordinate [] 20 l_Mo_isCoordinate_0 ?_
  simp -implicitDefEqProofs only [s_go, s_nil, s_cons, q_ins, s_op, s_i, s_j, s_a, s_v, s_li, s_lj, s_la, s_liO, s_ljO, s_laO, q_get, q_p1, q_p2, s_n2i, s_n2r, s_n2l, s_n2n, q_pad, q_ar, s_ob, s_obO, q_nth, s_ri, s_riO, s_rb, s_rbO, s_rzO, s_rl, s_rlO, s_rq, s_rqO, s_ry, s_ryO, s_dn, s_tl, s_tn, s_ap, s_an, s_ci, s_cr, s_ni, s_n0, s_n1, q_ags, q_cat, List.contains_nil, List.contains_cons, Nat.reduceBEq, Bool.or_false, Bool.false_or, Bool.true_or, Bool.false_eq_true, ↓reduceIte, Nat.le_refl, Nat.zero_le, true_and, and_true, Nat.reduceLeDiff, Nat.reduceAdd, Nat.add_zero, Nat.zero_add, List.length_cons, List.length_nil, List.set_cons_zero, List.set_cons_succ, Nat.reduceLT, s_fi, s_fl, s_fo, s_fa, s_f0, s_f1, s_set, s_ss, lg_cmp_ge, lg_cmp_le, lg_cmp_gt, lg_cmp_lt, lg_cmp_eq, s_brT, s_brF, s_10, w_Mo_isCoordinate, r_Mo_isCoordinate, l_Mo_isCoordinate_0, l_Mo_isCoordinate_20, l_Mo_isCoordinate_21, kl_8_243, kl_8_245, kc_1, kc_0, c1, c2]
  refine ⟨fun a => ?_, fun a => ⟨fun b => ?_, fun b => ?_⟩⟩
  · rw [decide_eq_false (fun k : -16384 ≤ z ∧ z ≤ 16383 => absurd k.1 (by omega))] at hq
    exact hq
  · rw [decide_eq_false (fun k : -16384 ≤ z ∧ z ≤ 16383 => absurd k.2 (by omega))] at hq
    exact hq
  · rw [decide_eq_true (show -16384 ≤ z ∧ z ≤ 16383 from ⟨by omega, by omega⟩)] at hq
    exact hq
