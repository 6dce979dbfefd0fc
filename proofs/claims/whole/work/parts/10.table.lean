/-! numbers in a file: spec words -/
/-- a byte of a stretch (st, ln) of the file F; 0 outside -/
def U8 (F : Nat → Nat) (st ln : Nat) (x : Int) : Nat := if 0 ≤ x ∧ x < ln then F (st + x.toNat) else 0
def U16 (F : Nat → Nat) (st ln : Nat) (x : Int) : Nat := 256 * U8 F st ln x + U8 F st ln (x + 1)
def U32 (F : Nat → Nat) (st ln : Nat) (x : Int) : Nat := 65536 * U16 F st ln x + U16 F st ln (x + 2)
def S16 (v : Nat) : Int := if 32767 < v then (v : Int) - 65536 else v
/-- a row of bytes: the object f, its array row of m places g, of which sz are the file F -/
def q_By (h : q_H) (f row m : Nat) (g : Nat → Int32) (sz : Nat) (F : Nat → Nat) : Prop :=
  h f = some (.inr (0, [.ref row, .int (nI sz)])) ∧ h row = some (.inl (1, m, .inl g)) ∧ sz ≤ m ∧ m ≤ 16384 ∧ (∀ j, j < sz → g j &&& 255 = nI (F j)) ∧ (∀ j, fits .byte (.int (g j)) = true) ∧ ∀ j, F j < 256
def q_Ta (h : q_H) (a f st ln : Nat) : Prop := h a = some (.inr (6, [.ref f, .int (nI st), .int (nI ln)]))
theorem U8_lt {F : Nat → Nat} (hF : ∀ j, F j < 256) (st ln : Nat) (x : Int) : U8 F st ln x < 256 := by
  unfold U8; split
  · exact hF _
  · omega
theorem U16_lt {F : Nat → Nat} (hF : ∀ j, F j < 256) (st ln : Nat) (x : Int) : U16 F st ln x < 65536 := by
  have := U8_lt hF st ln x; have := U8_lt hF st ln (x + 1); unfold U16; omega
theorem U32_lt {F : Nat → Nat} (hF : ∀ j, F j < 256) (st ln : Nat) (x : Int) : U32 F st ln x < 4294967296 := by
  have := U16_lt hF st ln x; have := U16_lt hF st ln (x + 2); unfold U32; omega
theorem q_neg {i : Int32} (h : i < 0) : i.toInt < 0 := by simpa using Int32.lt_iff_toInt_lt.mp h
theorem U8_in {F : Nat → Nat} {st ln j : Nat} (h : j < ln) : U8 F st ln (j : Int) = F (st + j) := by
  unfold U8; rw [if_pos ⟨by omega, by omega⟩]; simp
theorem U8_out {F : Nat → Nat} {st ln : Nat} {x : Int} (h : x < 0 ∨ ln ≤ x) : U8 F st ln x = 0 := by
  unfold U8; rw [if_neg (by omega)]
set_option maxRecDepth 100000 in
set_option maxHeartbeats 4000000 in
theorem c_Ta_u8 {G : q_G} {l : Launch} {d a f row m n sz st ln : Nat} {g : Nat → Int32} {F : Nat → Nat} {i : Int32} {h : q_H} {Q : q_P} (hT : q_Ta h a f st ln) (hB : q_By h f row m g sz F) (hin : st + ln ≤ sz) (hq : Q (some (.int (nI (U8 F st ln i.toInt)))) h n) : q_Call G l M_Ta_u8 d 0 0 [.ref a, .int i] h n Q := by
  obtain ⟨h2, h3, hsz, hm, hg, hb, hF⟩ := hB
  have h1 : h a = some (.inr (6, [.ref f, .int (nI st), .int (nI ln)])) := hT
  refine q_in u_Ta_u8 (by rw [L_Ta_u8]; exact Nat.le_of_ble_eq_true rfl) ?_
  rw [L_Ta_u8]
  refine q_at o_Ta_u8 [] 20 l_Ta_u8_0 ?_
  simp -implicitDefEqProofs only [s_go, s_nil, s_cons, q_ins, s_op, s_i, s_j, s_a, s_v, s_li, s_lj, s_la, s_liO, s_ljO, s_laO, q_get, q_p1, q_p2, s_n2i, s_n2r, s_n2l, s_n2n, q_pad, q_ar, s_ob, s_obO, q_nth, s_ri, s_riO, s_rb, s_rbO, s_rzO, s_rl, s_rlO, s_rq, s_rqO, s_ry, s_ryO, s_dn, s_tl, s_tn, s_ap, s_an, s_ci, s_cr, s_ni, s_n0, s_n1, q_ags, q_cat, List.contains_nil, List.contains_cons, Nat.reduceBEq, Bool.or_false, Bool.false_or, Bool.true_or, Bool.false_eq_true, ↓reduceIte, Nat.le_refl, Nat.zero_le, true_and, and_true, Nat.reduceLeDiff, Nat.reduceAdd, Nat.add_zero, Nat.zero_add, w_Ta_u8, r_Ta_u8, l_Ta_u8_0, l_Ta_u8_50, l_Ta_u8_51, f_6_13, f_6_17, f_6_7, f_6_20, f_6_25, ks_255, kc_0, h1, h2, h3]
  refine ⟨fun c => ?_, fun c => ?_⟩
  · rw [U8_out (Or.inl (q_neg c))] at hq; exact hq
  obtain ⟨j, hj, rfl⟩ := nI_of c
  rw [nI_toInt hj] at hq
  refine ⟨fun c1 => ?_, fun c1 => ?_⟩
  · rw [U8_out (Or.inr (by have := (nI_leI (by omega) hj).mp c1; omega))] at hq; exact hq
  have hjl : j < ln := by
    rcases Nat.lt_or_ge j ln with q | q
    · exact q
    · exact absurd ((nI_leI (by omega) hj).mpr q) c1
  rw [nI_add]
  refine ⟨fun c2 => absurd c2 (nI_pos (by omega)), fun c2 => ⟨fun c3 => ?_, fun c3 => ⟨vp_in_nI (by omega) (by omega), ?_⟩⟩⟩
  · exact absurd ((nI_leI (by omega) (by omega)).mp c3) (by omega)
  · rw [nI_clamp (by omega), hg _ (by omega)]
    rw [U8_in hjl] at hq
    exact hq
