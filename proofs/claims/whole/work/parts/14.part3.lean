/-! Part.isRead -/
def q_1 (h h' : q_H) (u : Nat) : Prop := ∀ b, b ≠ u → h' b = h b
theorem c_Cu_u16X {G : q_G} {l : Launch} {d a f row m n sz p e : Nat} {ro : Int32} {g : Nat → Int32} {F : Nat → Nat} {h : q_H} {Q : q_P} (hC : q_Cu h a f p e ro) (hB : q_By h f row m g sz F) (he : e ≤ sz) (hpe : p ≤ e)
    (k : ∀ h' v p' ro', q_1 h h' a → q_Cu h' a f p' e ro' → ((p + 2 ≤ e ∧ v = w2 F p ∧ p' = p + 2 ∧ ro' = ro) ∨ (e < p + 2 ∧ v = 0 ∧ p' = p ∧ ro' = 1)) → Q (some (.int (nI v))) h' n) : q_Call G l M_Cu_u16 d 0 0 [.ref a] h n Q := by
  refine c_Cu_u16 hC hB he hpe (fun hl => k _ (w2 F p) (p + 2) ro (fun b hb => s_ne _ _ hb) (s_set _ _ _) (Or.inl ⟨hl, rfl, rfl, rfl⟩)) (fun hl => k _ 0 p 1 (fun b hb => s_ne _ _ hb) (s_set _ _ _) (Or.inr ⟨hl, rfl, rfl, rfl⟩))
theorem c_Cu_u8X {G : q_G} {l : Launch} {d a f row m n sz p e : Nat} {ro : Int32} {g : Nat → Int32} {F : Nat → Nat} {h : q_H} {Q : q_P} (hC : q_Cu h a f p e ro) (hB : q_By h f row m g sz F) (he : e ≤ sz) (hpe : p ≤ e)
    (k : ∀ h' v p' ro', q_1 h h' a → q_Cu h' a f p' e ro' → ((p + 1 ≤ e ∧ v = F p ∧ p' = p + 1 ∧ ro' = ro) ∨ (e < p + 1 ∧ v = 0 ∧ p' = p ∧ ro' = 1)) → Q (some (.int (nI v))) h' n) : q_Call G l M_Cu_u8 d 0 0 [.ref a] h n Q := by
  refine c_Cu_u8 hC hB he hpe (fun hl => k _ (F p) (p + 1) ro (fun b hb => s_ne _ _ hb) (s_set _ _ _) (Or.inl ⟨hl, rfl, rfl, rfl⟩)) (fun hl => k _ 0 p 1 (fun b hb => s_ne _ _ hb) (s_set _ _ _) (Or.inr ⟨by omega, rfl, rfl, rfl⟩))
theorem c_Pa_numberX {G : q_G} {l : Launch} {dd o cu f row m n sz p e fl : Nat} {ro ch p0 q0 a b c d : Int32} {g : Nat → Int32} {F : Nat → Nat} {h : q_H} {Q : q_P} (hP : h o = some (e_Pa cu (nI fl) ch p0 q0 a b c d)) (hf : fl < 65536) (hC : q_Cu h cu f p e ro) (hB : q_By h f row m g sz F) (he : e ≤ sz) (hpe : p ≤ e)
    (k : ∀ h' x p' ro', q_1 h h' cu → q_Cu h' cu f p' e ro' → ((p + NW fl ≤ e ∧ x = iI (NV F fl p) ∧ p' = p + NW fl ∧ ro' = ro) ∨ (e < p + NW fl ∧ x = 0 ∧ p' = p ∧ ro' = 1)) → Q (some (.int x)) h' n) : q_Call G l M_Pa_number (dd + 1) 0 0 [.ref o] h n Q := by
  refine c_Pa_number hP hf hC hB he hpe (fun hl => k _ (iI (NV F fl p)) (p + NW fl) ro (fun b hb => s_ne _ _ hb) (s_set _ _ _) (Or.inl ⟨hl, rfl, rfl, rfl⟩)) (fun hl => k _ 0 p 1 (fun b hb => s_ne _ _ hb) (s_set _ _ _) (Or.inr ⟨hl, rfl, rfl, rfl⟩))
theorem c_Pa_readFactorsX {G : q_G} {l : Launch} {dd o cu f row m n sz p e fl : Nat} {ro ch p0 q0 a b c d : Int32} {g : Nat → Int32} {F : Nat → Nat} {h : q_H} {Q : q_P} (hP : h o = some (e_Pa cu (nI fl) ch p0 q0 a b c d)) (hf : fl < 65536) (hC : q_Cu h cu f p e ro) (hB : q_By h f row m g sz F) (he : e ≤ sz) (hpe : p ≤ e)
    (k : ∀ h' a b c d p' ro', q_2 h h' o cu → h' o = some (e_Pa cu (nI fl) ch p0 q0 a b c d) → q_Cu h' cu f p' e ro' → ((p + 2 * NF fl ≤ e ∧ a = iI (FA F fl p) ∧ b = iI (FB F fl p) ∧ c = iI (FC F fl p) ∧ d = iI (FD F fl p) ∧ p' = p + 2 * NF fl ∧ ro' = ro) ∨ (e < p + 2 * NF fl ∧ ro' = 1)) → Q none h' n) : q_Call G l M_Pa_readFactors (dd + 1) 0 0 [.ref o] h n Q := by
  refine c_Pa_readFactors hP hf hC hB he hpe (fun hl h' h1 h2 h3 => k h' _ _ _ _ _ _ h1 h2 h3 (Or.inl ⟨hl, rfl, rfl, rfl, rfl, rfl, rfl⟩)) (fun hl h' a b c d p' h1 h2 h3 => k h' _ _ _ _ _ _ h1 h2 h3 (Or.inr ⟨hl, rfl⟩))
def q_us (x s : Int32) : Int32 := (x.toUInt32 >>> (s.toUInt32 &&& Int32.toUInt32 31)).toInt32
def q_b0 (x : Int32) : Int32 := x - (q_us x 1 &&& 1431655765)
def q_b1 (x : Int32) : Int32 := (x &&& 858993459) + (q_us x 2 &&& 858993459)
def q_b2 (x : Int32) : Int32 := (x + q_us x 4) &&& 252645135
def q_b3 (x : Int32) : Int32 := x + q_us x 8
def q_b4 (x : Int32) : Int32 := x + q_us x 16
def q_bc (x : Int32) : Int32 := q_b4 (q_b3 (q_b2 (q_b1 (q_b0 x)))) &&& 63
set_option maxRecDepth 100000 in
set_option maxHeartbeats 4000000 in
theorem c_In_bitCount {G : q_G} {l : Launch} {d n : Nat} {x : Int32} {h : q_H} {Q : q_P} (hq : Q (some (.int (q_bc x))) h n) : q_Call G l M_In_bitCount d 0 0 [.int x] h n Q := by
  refine q_in u_In_bitCount (by rw [L_In_bitCount]; exact Nat.le_of_ble_eq_true rfl) ?_
  rw [L_In_bitCount]
  refine q_at o_In_bitCount [] 20 l_In_bitCount_0 ?_
  simp -implicitDefEqProofs only [s_go, s_nil, s_cons, q_ins, s_op, s_i, s_j, s_a, s_v, s_li, s_lj, s_la, s_liO, s_ljO, s_laO, q_get, q_p1, q_p2, s_n2i, s_n2r, s_n2l, s_n2n, q_pad, q_ar, s_ob, s_obO, q_nth, s_ri, s_riO, s_rb, s_rbO, s_rzO, s_rl, s_rlO, s_rq, s_rqO, s_ry, s_ryO, s_dn, s_tl, s_tn, s_ap, s_an, s_ci, s_cr, s_ni, s_n0, s_n1, q_ags, q_cat, List.contains_nil, List.contains_cons, Nat.reduceBEq, Bool.or_false, Bool.false_or, Bool.true_or, Bool.false_eq_true, ↓reduceIte, Nat.le_refl, Nat.zero_le, true_and, and_true, Nat.reduceLeDiff, Nat.reduceAdd, Nat.add_zero, Nat.zero_add, List.length_cons, List.length_nil, List.set_cons_zero, List.set_cons_succ, Nat.reduceLT, s_fi, s_fl, s_fo, s_fa, s_f0, s_f1, s_set, s_ss, lg_cmp_ge, lg_cmp_le, lg_cmp_gt, lg_cmp_lt, lg_cmp_eq, s_brT, s_brF, s_10, w_In_bitCount, r_In_bitCount, l_In_bitCount_0, kc_1, ki_12_265, ki_12_266, kc_2, kc_4, ki_12_267, kb_8, kb_16, kb_63]
  exact hq
/-- how many of the bits 3, 6, 7 -/
def BC (fl : Nat) : Nat := fl / 8 % 2 + fl / 64 % 2 + fl / 128 % 2
theorem q_bc_ok {fl : Nat} (hf : fl < 65536) : (1 < q_bc (nI fl &&& 200)) ↔ 1 < BC fl := by
  have h0 : ∀ v : Fin 256, (1 < q_bc (nI (v.val &&& 200))) ↔ 1 < BC v.val := by decide +kernel
  have h1 : fl &&& 200 = fl % 256 &&& 200 := by
    have := Nat.and_mod_two_pow (a := fl) (b := 200) (n := 8)
    rw [show (2 : Nat) ^ 8 = 256 from rfl, show 200 % 256 = 200 from rfl, Nat.mod_eq_of_lt (Nat.lt_of_le_of_lt Nat.and_le_right (by omega))] at this
    exact this
  have h2 := h0 ⟨fl % 256, Nat.mod_lt _ (by omega)⟩
  rw [show (200 : Int32) = nI 200 from rfl, q_nand, h1, h2]
  unfold BC
  dsimp only
  rw [show fl % 256 / 8 % 2 = fl / 8 % 2 by omega, show fl % 256 / 64 % 2 = fl / 64 % 2 by omega, show fl % 256 / 128 % 2 = fl / 128 % 2 by omega]
/-- where a part's pieces lie -/
def PA1 (p : Nat) : Nat := p + 4
def PA2 (F : Nat → Nat) (p : Nat) : Nat := p + 4 + NW (w2 F p)
def PA3 (F : Nat → Nat) (p : Nat) : Nat := p + 4 + 2 * NW (w2 F p)
def PA4 (F : Nat → Nat) (p : Nat) : Nat := p + 4 + 2 * NW (w2 F p) + 2 * NF (w2 F p)
set_option maxRecDepth 100000 in
set_option maxHeartbeats 4000000 in
theorem c_Pa_isRead {G : q_G} {l : Launch} {dd o cu f row m n sz p e : Nat} {fl0 ch0 p0 q0 a0 b0 c0 d0 : Int32} {g : Nat → Int32} {F : Nat → Nat} {h : q_H} {Q : q_P} (hP : h o = some (e_Pa cu fl0 ch0 p0 q0 a0 b0 c0 d0)) (hC : q_Cu h cu f p e 0) (hB : q_By h f row m g sz F) (he : e ≤ sz) (hpe : p ≤ e)
    (q1 : PA4 F p ≤ e → BC (w2 F p) ≤ 1 → ∀ h', q_2 h h' o cu → h' o = some (e_Pa cu (nI (w2 F p)) (nI (w2 F (p + 2))) (iI (NV F (w2 F p) (PA1 p))) (iI (NV F (w2 F p) (PA2 F p))) (iI (FA F (w2 F p) (PA3 F p))) (iI (FB F (w2 F p) (PA3 F p))) (iI (FC F (w2 F p) (PA3 F p))) (iI (FD F (w2 F p) (PA3 F p)))) → q_Cu h' cu f (PA4 F p) e 0 → Q (some (.int 1)) h' n)
    (q2 : (e < PA4 F p ∨ 1 < BC (w2 F p)) → ∀ h' fl ch p1 q1 a b c d p' ro, q_2 h h' o cu → h' o = some (e_Pa cu fl ch p1 q1 a b c d) → q_Cu h' cu f p' e ro → (ro = 0 ∨ ro = 1) → Q (some (.int 0)) h' n) : q_Call G l M_Pa_isRead (dd + 2) 0 0 [.ref o] h n Q := by
  have hF := hB.2.2.2.2.2.2
  have hoc : o ≠ cu := q_cuP hC hP e_Pa_nc
  have hof : f ≠ o := fun q => by have := hB.1; rw [q, hP] at this; cases this
  have hor : row ≠ o := fun q => by have := hB.2.1; rw [q, hP] at this; cases this
  have hcf : f ≠ cu := fun q => by have := hB.1; rw [q] at this; unfold q_Cu at hC; rw [hC] at this; cases this
  have hcr : row ≠ cu := fun q => by have := hB.2.1; rw [q] at this; unfold q_Cu at hC; rw [hC] at this; cases this
  have gB : ∀ h', q_2 h h' o cu → q_By h' f row m g sz F := fun h' hh => ⟨(hh f hof hcf).trans hB.1, (hh row hor hcr).trans hB.2.1, hB.2.2⟩
  have j2 : ∀ {h1 h2 : q_H}, q_2 h h1 o cu → q_1 h1 h2 cu → q_2 h h2 o cu := fun hh e b b1 b2 => (e b b2).trans (hh b b1 b2)
  have j1 : ∀ {h1 h2 : q_H} {x : q_E}, q_2 h h1 o cu → h2 = q_set h1 o x → q_2 h h2 o cu := fun hh e b b1 b2 => by subst e; rw [s_ne _ _ b1]; exact hh b b1 b2
  have j3 : ∀ {h1 h2 : q_H}, q_2 h h1 o cu → q_2 h1 h2 o cu → q_2 h h2 o cu := fun hh e b b1 b2 => (e b b1 b2).trans (hh b b1 b2)
  have r0 : q_2 h h o cu := fun b _ _ => rfl
  have hP' := hP
  unfold e_Pa at hP'
  have hC' : h cu = some (.inr (2, [.ref f, .int (nI p), .int (nI e), .int 0])) := hC
  refine q_in u_Pa_isRead (by rw [L_Pa_isRead]; exact Nat.le_of_ble_eq_true rfl) ?_
  rw [L_Pa_isRead]
  refine q_at o_Pa_isRead [] 20 l_Pa_isRead_0 ?_
  simp -implicitDefEqProofs only [s_go, s_nil, s_cons, q_ins, s_op, s_i, s_j, s_a, s_v, s_li, s_lj, s_la, s_liO, s_ljO, s_laO, q_get, q_p1, q_p2, s_n2i, s_n2r, s_n2l, s_n2n, q_pad, q_ar, s_ob, s_obO, q_nth, s_ri, s_riO, s_rb, s_rbO, s_rzO, s_rl, s_rlO, s_rq, s_rqO, s_ry, s_ryO, s_dn, s_tl, s_tn, s_ap, s_an, s_ci, s_cr, s_ni, s_n0, s_n1, q_ags, q_cat, List.contains_nil, List.contains_cons, Nat.reduceBEq, Bool.or_false, Bool.false_or, Bool.true_or, Bool.false_eq_true, ↓reduceIte, Nat.le_refl, Nat.zero_le, true_and, and_true, Nat.reduceLeDiff, Nat.reduceAdd, Nat.add_zero, Nat.zero_add, List.length_cons, List.length_nil, List.set_cons_zero, List.set_cons_succ, Nat.reduceLT, s_fi, s_fl, s_fo, s_fa, s_f0, s_f1, s_set, s_ss, lg_cmp_ge, lg_cmp_le, lg_cmp_gt, lg_cmp_lt, lg_cmp_eq, s_brT, s_brF, s_10, w_Pa_isRead, r_Pa_isRead, l_Pa_isRead_0, l_Pa_isRead_71, l_Pa_isRead_72, f_5_14, ml_5_24, w_Cu_u16, f_5_20, ty_5_1, f_5_28, ty_5_2, ml_5_31, w_Pa_number, f_5_34, ty_5_3, f_5_37, ty_5_4, ml_5_40, w_Pa_readFactors, f_5_43, ks_200, ml_5_47, w_In_bitCount, q_ac_no_5_47, q_mm_no_5_47, kc_1, kc_0, hP', hC']
  refine q_c0 (Nat.le_refl _) (Nat.le_refl _) ?_
  refine c_Cu_u16X hC hB he hpe (fun h1 v1 p1 r1 t1 C1 R1 => ?_)
  have P1 : h1 o = _ := (t1 o hoc).trans hP'
  have t1 := j2 r0 t1
  have C1' : h1 cu = some (.inr (2, [.ref f, .int (nI p1), .int (nI e), .int r1])) := C1
  simp -implicitDefEqProofs only [s_go, s_nil, s_cons, q_ins, s_op, s_i, s_j, s_a, s_v, s_li, s_lj, s_la, s_liO, s_ljO, s_laO, q_get, q_p1, q_p2, s_n2i, s_n2r, s_n2l, s_n2n, q_pad, q_ar, s_ob, s_obO, q_nth, s_ri, s_riO, s_rb, s_rbO, s_rzO, s_rl, s_rlO, s_rq, s_rqO, s_ry, s_ryO, s_dn, s_tl, s_tn, s_ap, s_an, s_ci, s_cr, s_ni, s_n0, s_n1, q_ags, q_cat, List.contains_nil, List.contains_cons, Nat.reduceBEq, Bool.or_false, Bool.false_or, Bool.true_or, Bool.false_eq_true, ↓reduceIte, Nat.le_refl, Nat.zero_le, true_and, and_true, Nat.reduceLeDiff, Nat.reduceAdd, Nat.add_zero, Nat.zero_add, List.length_cons, List.length_nil, List.set_cons_zero, List.set_cons_succ, Nat.reduceLT, s_fi, s_fl, s_fo, s_fa, s_f0, s_f1, s_set, s_ss, lg_cmp_ge, lg_cmp_le, lg_cmp_gt, lg_cmp_lt, lg_cmp_eq, s_brT, s_brF, s_10, w_Pa_isRead, r_Pa_isRead, l_Pa_isRead_0, l_Pa_isRead_71, l_Pa_isRead_72, f_5_14, ml_5_24, w_Cu_u16, f_5_20, ty_5_1, f_5_28, ty_5_2, ml_5_31, w_Pa_number, f_5_34, ty_5_3, f_5_37, ty_5_4, ml_5_40, w_Pa_readFactors, f_5_43, ks_200, ml_5_47, w_In_bitCount, q_ac_no_5_47, q_mm_no_5_47, kc_1, kc_0, P1, C1', s_ne _ _ hoc, s_ne _ _ hoc.symm]
  refine q_c0 (Nat.le_refl _) (Nat.le_refl _) ?_
  generalize hh2 : q_set h1 o _ = h2
  have t2 : q_2 h h2 o cu := j1 t1 hh2.symm
  have P2 : h2 o = some (e_Pa cu (nI v1) ch0 p0 q0 a0 b0 c0 d0) := by rw [← hh2]; exact s_set _ _ _
  have C2 : q_Cu h2 cu f p1 e r1 := by unfold q_Cu; rw [← hh2, s_ne _ _ hoc.symm]; exact C1
  have hv1 : v1 < 65536 := by have := w2_lt hF p; omega
  refine c_Cu_u16X C2 (gB _ t2) he (by omega) (fun h3 v2 p2 r2 t3 C3 R2 => ?_)
  have P3 : h3 o = some (.inr (5, [.ref cu, .int (nI v1), .int ch0, .int p0, .int q0, .int a0, .int b0, .int c0, .int d0])) := (t3 o hoc).trans P2
  have t3 := j2 t2 t3
  have C3' : h3 cu = some (.inr (2, [.ref f, .int (nI p2), .int (nI e), .int r2])) := C3
  simp -implicitDefEqProofs only [s_go, s_nil, s_cons, q_ins, s_op, s_i, s_j, s_a, s_v, s_li, s_lj, s_la, s_liO, s_ljO, s_laO, q_get, q_p1, q_p2, s_n2i, s_n2r, s_n2l, s_n2n, q_pad, q_ar, s_ob, s_obO, q_nth, s_ri, s_riO, s_rb, s_rbO, s_rzO, s_rl, s_rlO, s_rq, s_rqO, s_ry, s_ryO, s_dn, s_tl, s_tn, s_ap, s_an, s_ci, s_cr, s_ni, s_n0, s_n1, q_ags, q_cat, List.contains_nil, List.contains_cons, Nat.reduceBEq, Bool.or_false, Bool.false_or, Bool.true_or, Bool.false_eq_true, ↓reduceIte, Nat.le_refl, Nat.zero_le, true_and, and_true, Nat.reduceLeDiff, Nat.reduceAdd, Nat.add_zero, Nat.zero_add, List.length_cons, List.length_nil, List.set_cons_zero, List.set_cons_succ, Nat.reduceLT, s_fi, s_fl, s_fo, s_fa, s_f0, s_f1, s_set, s_ss, lg_cmp_ge, lg_cmp_le, lg_cmp_gt, lg_cmp_lt, lg_cmp_eq, s_brT, s_brF, s_10, w_Pa_isRead, r_Pa_isRead, l_Pa_isRead_0, l_Pa_isRead_71, l_Pa_isRead_72, f_5_14, ml_5_24, w_Cu_u16, f_5_20, ty_5_1, f_5_28, ty_5_2, ml_5_31, w_Pa_number, f_5_34, ty_5_3, f_5_37, ty_5_4, ml_5_40, w_Pa_readFactors, f_5_43, ks_200, ml_5_47, w_In_bitCount, q_ac_no_5_47, q_mm_no_5_47, kc_1, kc_0, P3, C3', s_ne _ _ hoc, s_ne _ _ hoc.symm]
  refine q_c0 (Nat.le_refl _) (Nat.le_refl _) ?_
  generalize hh4 : q_set h3 o _ = h4
  have t4 : q_2 h h4 o cu := j1 t3 hh4.symm
  have P4 : h4 o = some (e_Pa cu (nI v1) (nI v2) p0 q0 a0 b0 c0 d0) := by rw [← hh4]; exact s_set _ _ _
  have C4 : q_Cu h4 cu f p2 e r2 := by unfold q_Cu; rw [← hh4, s_ne _ _ hoc.symm]; exact C3
  refine c_Pa_numberX P4 hv1 C4 (gB _ t4) he (by omega) (fun h5 x3 p3 r3 t5 C5 R3 => ?_)
  have P5 : h5 o = some (.inr (5, [.ref cu, .int (nI v1), .int (nI v2), .int p0, .int q0, .int a0, .int b0, .int c0, .int d0])) := (t5 o hoc).trans P4
  have t5 := j2 t4 t5
  have C5' : h5 cu = some (.inr (2, [.ref f, .int (nI p3), .int (nI e), .int r3])) := C5
  simp -implicitDefEqProofs only [s_go, s_nil, s_cons, q_ins, s_op, s_i, s_j, s_a, s_v, s_li, s_lj, s_la, s_liO, s_ljO, s_laO, q_get, q_p1, q_p2, s_n2i, s_n2r, s_n2l, s_n2n, q_pad, q_ar, s_ob, s_obO, q_nth, s_ri, s_riO, s_rb, s_rbO, s_rzO, s_rl, s_rlO, s_rq, s_rqO, s_ry, s_ryO, s_dn, s_tl, s_tn, s_ap, s_an, s_ci, s_cr, s_ni, s_n0, s_n1, q_ags, q_cat, List.contains_nil, List.contains_cons, Nat.reduceBEq, Bool.or_false, Bool.false_or, Bool.true_or, Bool.false_eq_true, ↓reduceIte, Nat.le_refl, Nat.zero_le, true_and, and_true, Nat.reduceLeDiff, Nat.reduceAdd, Nat.add_zero, Nat.zero_add, List.length_cons, List.length_nil, List.set_cons_zero, List.set_cons_succ, Nat.reduceLT, s_fi, s_fl, s_fo, s_fa, s_f0, s_f1, s_set, s_ss, lg_cmp_ge, lg_cmp_le, lg_cmp_gt, lg_cmp_lt, lg_cmp_eq, s_brT, s_brF, s_10, w_Pa_isRead, r_Pa_isRead, l_Pa_isRead_0, l_Pa_isRead_71, l_Pa_isRead_72, f_5_14, ml_5_24, w_Cu_u16, f_5_20, ty_5_1, f_5_28, ty_5_2, ml_5_31, w_Pa_number, f_5_34, ty_5_3, f_5_37, ty_5_4, ml_5_40, w_Pa_readFactors, f_5_43, ks_200, ml_5_47, w_In_bitCount, q_ac_no_5_47, q_mm_no_5_47, kc_1, kc_0, P5, C5', s_ne _ _ hoc, s_ne _ _ hoc.symm]
  refine q_c0 (Nat.le_refl _) (Nat.le_refl _) ?_
  generalize hh6 : q_set h5 o _ = h6
  have t6 : q_2 h h6 o cu := j1 t5 hh6.symm
  have P6 : h6 o = some (e_Pa cu (nI v1) (nI v2) x3 q0 a0 b0 c0 d0) := by rw [← hh6]; exact s_set _ _ _
  have C6 : q_Cu h6 cu f p3 e r3 := by unfold q_Cu; rw [← hh6, s_ne _ _ hoc.symm]; exact C5
  refine c_Pa_numberX P6 hv1 C6 (gB _ t6) he (by omega) (fun h7 x4 p4 r4 t7 C7 R4 => ?_)
  have P7 : h7 o = some (.inr (5, [.ref cu, .int (nI v1), .int (nI v2), .int x3, .int q0, .int a0, .int b0, .int c0, .int d0])) := (t7 o hoc).trans P6
  have t7 := j2 t6 t7
  have C7' : h7 cu = some (.inr (2, [.ref f, .int (nI p4), .int (nI e), .int r4])) := C7
  simp -implicitDefEqProofs only [s_go, s_nil, s_cons, q_ins, s_op, s_i, s_j, s_a, s_v, s_li, s_lj, s_la, s_liO, s_ljO, s_laO, q_get, q_p1, q_p2, s_n2i, s_n2r, s_n2l, s_n2n, q_pad, q_ar, s_ob, s_obO, q_nth, s_ri, s_riO, s_rb, s_rbO, s_rzO, s_rl, s_rlO, s_rq, s_rqO, s_ry, s_ryO, s_dn, s_tl, s_tn, s_ap, s_an, s_ci, s_cr, s_ni, s_n0, s_n1, q_ags, q_cat, List.contains_nil, List.contains_cons, Nat.reduceBEq, Bool.or_false, Bool.false_or, Bool.true_or, Bool.false_eq_true, ↓reduceIte, Nat.le_refl, Nat.zero_le, true_and, and_true, Nat.reduceLeDiff, Nat.reduceAdd, Nat.add_zero, Nat.zero_add, List.length_cons, List.length_nil, List.set_cons_zero, List.set_cons_succ, Nat.reduceLT, s_fi, s_fl, s_fo, s_fa, s_f0, s_f1, s_set, s_ss, lg_cmp_ge, lg_cmp_le, lg_cmp_gt, lg_cmp_lt, lg_cmp_eq, s_brT, s_brF, s_10, w_Pa_isRead, r_Pa_isRead, l_Pa_isRead_0, l_Pa_isRead_71, l_Pa_isRead_72, f_5_14, ml_5_24, w_Cu_u16, f_5_20, ty_5_1, f_5_28, ty_5_2, ml_5_31, w_Pa_number, f_5_34, ty_5_3, f_5_37, ty_5_4, ml_5_40, w_Pa_readFactors, f_5_43, ks_200, ml_5_47, w_In_bitCount, q_ac_no_5_47, q_mm_no_5_47, kc_1, kc_0, P7, C7', s_ne _ _ hoc, s_ne _ _ hoc.symm]
  refine q_c0 (Nat.le_refl _) (Nat.le_refl _) ?_
  generalize hh8 : q_set h7 o _ = h8
  have t8 : q_2 h h8 o cu := j1 t7 hh8.symm
  have P8 : h8 o = some (e_Pa cu (nI v1) (nI v2) x3 x4 a0 b0 c0 d0) := by rw [← hh8]; exact s_set _ _ _
  have C8 : q_Cu h8 cu f p4 e r4 := by unfold q_Cu; rw [← hh8, s_ne _ _ hoc.symm]; exact C7
  refine c_Pa_readFactorsX P8 hv1 C8 (gB _ t8) he (by omega) (fun h9 a b c d p5 r5 t9 P9 C9 R5 => ?_)
  have t9 := j3 t8 t9
  have P9' := P9
  unfold e_Pa at P9'
  have C9' : h9 cu = some (.inr (2, [.ref f, .int (nI p5), .int (nI e), .int r5])) := C9
  have hr : r5 = 0 ∨ r5 = 1 := by
    rcases R1 with ⟨-, -, -, z1⟩ | ⟨-, -, -, z1⟩ <;> rcases R2 with ⟨-, -, -, z2⟩ | ⟨-, -, -, z2⟩ <;> rcases R3 with ⟨-, -, -, z3⟩ | ⟨-, -, -, z3⟩ <;> rcases R4 with ⟨-, -, -, z4⟩ | ⟨-, -, -, z4⟩ <;> rcases R5 with ⟨-, -, -, -, -, -, z5⟩ | ⟨-, z5⟩ <;> simp [z1, z2, z3, z4, z5]
  have good : r5 = 0 → PA4 F p ≤ e ∧ v1 = w2 F p ∧ v2 = w2 F (p + 2) ∧ x3 = iI (NV F (w2 F p) (PA1 p)) ∧ x4 = iI (NV F (w2 F p) (PA2 F p)) ∧ a = iI (FA F (w2 F p) (PA3 F p)) ∧ b = iI (FB F (w2 F p) (PA3 F p)) ∧ c = iI (FC F (w2 F p) (PA3 F p)) ∧ d = iI (FD F (w2 F p) (PA3 F p)) ∧ p5 = PA4 F p := by
    intro h0
    rcases R5 with ⟨y5, f1, f2, f3, f4, f5, z5⟩ | ⟨-, z5⟩
    · rcases R4 with ⟨y4, x4e, p4e, z4⟩ | ⟨-, -, -, z4⟩
      · rcases R3 with ⟨y3, x3e, p3e, z3⟩ | ⟨-, -, -, z3⟩
        · rcases R2 with ⟨y2, v2e, p2e, z2⟩ | ⟨-, -, -, z2⟩
          · rcases R1 with ⟨y1, v1e, p1e, z1⟩ | ⟨-, -, -, z1⟩
            · subst v1e; subst p1e; subst v2e; subst p2e; subst p3e; subst p4e
              have e1 : p + 2 + 2 = PA1 p := rfl
              have e2 : p + 2 + 2 + NW (w2 F p) = PA2 F p := rfl
              have e3 : p + 2 + 2 + NW (w2 F p) + NW (w2 F p) = PA3 F p := by unfold PA3; omega
              rw [e3] at f1 f2 f3 f4 f5 y5
              rw [e2] at x4e
              rw [e1] at x3e
              refine ⟨?_, rfl, rfl, x3e, x4e, f1, f2, f3, f4, ?_⟩
              · unfold PA4; unfold PA3 at y5; exact y5
              · rw [f5]; rfl
            · exact absurd (h0.symm.trans (z5.trans (z4.trans (z3.trans (z2.trans z1))))) (by decide)
          · exact absurd (h0.symm.trans (z5.trans (z4.trans (z3.trans z2)))) (by decide)
        · exact absurd (h0.symm.trans (z5.trans (z4.trans z3))) (by decide)
      · exact absurd (h0.symm.trans (z5.trans z4)) (by decide)
    · exact absurd (h0.symm.trans z5) (by decide)
  have bad : ¬ r5 = 0 → e < PA4 F p := by
    intro h0
    rcases R1 with ⟨y1, v1e, p1e, z1⟩ | ⟨y1, -, -, -⟩
    · rcases R2 with ⟨y2, v2e, p2e, z2⟩ | ⟨y2, -, -, -⟩
      · rcases R3 with ⟨y3, -, p3e, z3⟩ | ⟨y3, -, -, -⟩
        · rcases R4 with ⟨y4, -, p4e, z4⟩ | ⟨y4, -, -, -⟩
          · rcases R5 with ⟨y5, -, -, -, -, -, z5⟩ | ⟨y5, -⟩
            · exact absurd (z5.trans (z4.trans (z3.trans (z2.trans z1)))) h0
            · subst v1e; unfold PA4; omega
          · subst v1e; unfold PA4; omega
        · subst v1e; unfold PA4; omega
      · unfold PA4; omega
    · unfold PA4; omega
  simp -implicitDefEqProofs only [s_go, s_nil, s_cons, q_ins, s_op, s_i, s_j, s_a, s_v, s_li, s_lj, s_la, s_liO, s_ljO, s_laO, q_get, q_p1, q_p2, s_n2i, s_n2r, s_n2l, s_n2n, q_pad, q_ar, s_ob, s_obO, q_nth, s_ri, s_riO, s_rb, s_rbO, s_rzO, s_rl, s_rlO, s_rq, s_rqO, s_ry, s_ryO, s_dn, s_tl, s_tn, s_ap, s_an, s_ci, s_cr, s_ni, s_n0, s_n1, q_ags, q_cat, List.contains_nil, List.contains_cons, Nat.reduceBEq, Bool.or_false, Bool.false_or, Bool.true_or, Bool.false_eq_true, ↓reduceIte, Nat.le_refl, Nat.zero_le, true_and, and_true, Nat.reduceLeDiff, Nat.reduceAdd, Nat.add_zero, Nat.zero_add, List.length_cons, List.length_nil, List.set_cons_zero, List.set_cons_succ, Nat.reduceLT, s_fi, s_fl, s_fo, s_fa, s_f0, s_f1, s_set, s_ss, lg_cmp_ge, lg_cmp_le, lg_cmp_gt, lg_cmp_lt, lg_cmp_eq, s_brT, s_brF, s_10, w_Pa_isRead, r_Pa_isRead, l_Pa_isRead_0, l_Pa_isRead_71, l_Pa_isRead_72, f_5_14, ml_5_24, w_Cu_u16, f_5_20, ty_5_1, f_5_28, ty_5_2, ml_5_31, w_Pa_number, f_5_34, ty_5_3, f_5_37, ty_5_4, ml_5_40, w_Pa_readFactors, f_5_43, ks_200, ml_5_47, w_In_bitCount, q_ac_no_5_47, q_mm_no_5_47, kc_1, kc_0, P9', C9']
  refine ⟨fun c0 => ?_, fun c0 => ?_⟩
  · obtain ⟨g0, g1, g2, g3, g4, g5, g6, g7, g8, g9⟩ := good c0
    subst g1
    refine q_c0 (Nat.le_refl _) (Nat.le_refl _) ?_
    refine c_In_bitCount ?_
    simp -implicitDefEqProofs only [s_go, s_nil, s_cons, q_ins, s_op, s_i, s_j, s_a, s_v, s_li, s_lj, s_la, s_liO, s_ljO, s_laO, q_get, q_p1, q_p2, s_n2i, s_n2r, s_n2l, s_n2n, q_pad, q_ar, s_ob, s_obO, q_nth, s_ri, s_riO, s_rb, s_rbO, s_rzO, s_rl, s_rlO, s_rq, s_rqO, s_ry, s_ryO, s_dn, s_tl, s_tn, s_ap, s_an, s_ci, s_cr, s_ni, s_n0, s_n1, q_ags, q_cat, List.contains_nil, List.contains_cons, Nat.reduceBEq, Bool.or_false, Bool.false_or, Bool.true_or, Bool.false_eq_true, ↓reduceIte, Nat.le_refl, Nat.zero_le, true_and, and_true, Nat.reduceLeDiff, Nat.reduceAdd, Nat.add_zero, Nat.zero_add, List.length_cons, List.length_nil, List.set_cons_zero, List.set_cons_succ, Nat.reduceLT, s_fi, s_fl, s_fo, s_fa, s_f0, s_f1, s_set, s_ss, lg_cmp_ge, lg_cmp_le, lg_cmp_gt, lg_cmp_lt, lg_cmp_eq, s_brT, s_brF, s_10, w_Pa_isRead, r_Pa_isRead, l_Pa_isRead_0, l_Pa_isRead_71, l_Pa_isRead_72, f_5_14, ml_5_24, w_Cu_u16, f_5_20, ty_5_1, f_5_28, ty_5_2, ml_5_31, w_Pa_number, f_5_34, ty_5_3, f_5_37, ty_5_4, ml_5_40, w_Pa_readFactors, f_5_43, ks_200, ml_5_47, w_In_bitCount, q_ac_no_5_47, q_mm_no_5_47, kc_1, kc_0, P9', C9', q_bc_ok hv1]
    refine ⟨fun k1 => ?_, fun k1 => ?_⟩
    · exact q2 (Or.inr k1) h9 _ _ _ _ _ _ _ _ _ _ t9 P9 C9 hr
    · refine q1 g0 (by omega) h9 t9 ?_ ?_
      · rw [P9, g2, g3, g4, g5, g6, g7, g8]
      · rw [← g9, ← c0]; exact C9
  · exact q2 (Or.inl (bad c0)) h9 _ _ _ _ _ _ _ _ _ _ t9 P9 C9 hr
