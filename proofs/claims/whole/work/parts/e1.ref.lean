/-! the reference's calls over the loop's state -/
def RSc (h : q_H) (y : Nat) (F : Nat → Nat) (sz : Nat) (ld : Bool) (Fc : Nat → Nat) (sc : Nat) : Prop := TP h y F sz ∧ MoN h y ∧ MoE h y ∧ (∃ gf : Nat → Int32, h (y + 2) = some (.inl (0, 16384, .inl gf))) ∧ (∃ gp gl : Nat → Int32, h (y + 4) = some (.inl (0, 16, .inl gp)) ∧ h (y + 5) = some (.inl (0, 16, .inl gl))) ∧ sz ≤ 16384 ∧ (∀ j, F j < 256) ∧ (ld = true → MoC h y Fc sc ∧ sc ≤ 16384 ∧ (∀ j, Fc j < 256) ∧ FNT Fc sc ∧ ALL_ok Fc sc)
theorem RSc.mv {h h' : q_H} {y : Nat} {F : Nat → Nat} {sz : Nat} {ld : Bool} {Fc : Nat → Nat} {sc : Nat} (r : RSc h y F sz ld Fc sc) (e : ∀ b, y < b → b ≤ y + 24 → h' b = h b) : RSc h' y F sz ld Fc sc := by
  obtain ⟨⟨g, r3, r4⟩, ⟨gn, r5, r6⟩, r7, ⟨gf, r8⟩, ⟨gp, gl, r9, r10⟩, r11, r12, r13⟩ := r
  refine ⟨⟨g, (e _ (by omega) (by omega)).trans r3, r4⟩, ⟨gn, (e _ (by omega) (by omega)).trans r5, r6⟩, fun k k1 k2 => ?_, ⟨gf, (e _ (by omega) (by omega)).trans r8⟩, ⟨gp, gl, (e _ (by omega) (by omega)).trans r9, (e _ (by omega) (by omega)).trans r10⟩, r11, r12, fun z => ?_⟩
  · obtain ⟨g, q⟩ := r7 k k1 k2
    exact ⟨g, (e _ (by omega) (by omega)).trans q⟩
  · obtain ⟨⟨⟨gf, m1, m2⟩, gp, gl, m3, m4, m5⟩, r14⟩ := r13 z
    exact ⟨⟨⟨gf, (e _ (by omega) (by omega)).trans m1, m2⟩, gp, gl, (e _ (by omega) (by omega)).trans m3, (e _ (by omega) (by omega)).trans m4, m5⟩, r14⟩
def RA (h : q_H) (y : Nat) (fa : Int32) : Prop := ∃ si fo wi of_ bd pr le, h y = some (e_Mo y fa si fo wi of_ bd pr le)
def RP (h h' : q_H) (y : Nat) (fa : Int32) (F : Nat → Nat) (sz : Nat) (ld : Bool) (Fc : Nat → Nat) (sc : Nat) : Prop := (∀ b, (b < y ∨ y + 24 < b) → h' b = h b) ∧ RA h' y fa ∧ RS h' y F sz ld Fc sc
theorem RP.of {h h' : q_H} {y : Nat} {fa wi of_ pr le : Int32} {F : Nat → Nat} {sz : Nat} {ld bd : Bool} {Fc : Nat → Nat} {sc : Nat} (r : RSc h' y F sz ld Fc sc) (e : ∀ b, (b < y ∨ y + 24 < b) → h' b = h b) (hw : ld = true → wi = bI (mp_w Fc sc)) : RP h (Mh h' y fa (nI sz) (bI ld) wi of_ (bI bd) pr le) y fa F sz ld Fc sc :=
  ⟨fun b hb => (Mh_n (by omega)).trans (e b hb), ⟨_, _, _, _, _, _, _, Mh_y⟩, ⟨fa, wi, of_, pr, le, bd, Mh_y, hw⟩, r.mv (fun b b1 _ => Mh_n (by omega))⟩
theorem Fup_lt {F : Nat → Nat} {k v : Nat} (h : ∀ j, F j < 256) (hv : v < 256) : ∀ j, Fup F k v j < 256 := by
  intro j
  unfold Fup
  split
  · exact hv
  · exact h j
theorem FW_lt {F : Nat → Nat} {s : Nat} {w : Int32} (h : ∀ j, F j < 256) : ∀ j, FW F s w j < 256 := Fup_lt (Fup_lt (Fup_lt (Fup_lt h (bv_lt _)) (bv_lt _)) (bv_lt _)) (bv_lt _)
theorem RSc.tp {h h' : q_H} {y : Nat} {F F' : Nat → Nat} {sz sz' : Nat} {ld : Bool} {Fc : Nat → Nat} {sc : Nat} (r : RSc h y F sz ld Fc sc) (t : q_1 h h' (y + 1)) (T : TP h' y F' sz') (hs : sz' ≤ 16384) (hF : ∀ j, F' j < 256) : RSc h' y F' sz' ld Fc sc := by
  obtain ⟨-, ⟨gn, r5, r6⟩, r7, ⟨gf, r8⟩, ⟨gp, gl, r9, r10⟩, r11, r12, r13⟩ := r
  have e : ∀ b, b ≠ y + 1 → h' b = h b := t
  refine ⟨T, ⟨gn, (e _ (by omega)).trans r5, r6⟩, fun k k1 k2 => ?_, ⟨gf, (e _ (by omega)).trans r8⟩, ⟨gp, gl, (e _ (by omega)).trans r9, (e _ (by omega)).trans r10⟩, hs, hF, fun z => ?_⟩
  · obtain ⟨g, q⟩ := r7 k k1 k2
    exact ⟨g, (e _ (by omega)).trans q⟩
  · obtain ⟨⟨⟨gf, m1, m2⟩, gp, gl, m3, m4, m5⟩, r14⟩ := r13 z
    exact ⟨⟨⟨gf, (e _ (by omega)).trans m1, m2⟩, gp, gl, (e _ (by omega)).trans m3, (e _ (by omega)).trans m4, m5⟩, r14⟩
theorem RSc.kd {h h' : q_H} {y : Nat} {F : Nat → Nat} {sz : Nat} {ld : Bool} {Fc : Nat → Nat} {sc : Nat} (r : RSc h y F sz ld Fc sc) (e : ∀ b, (b < y + 6 ∨ y + 24 < b) → h' b = h b) (E : MoE h' y) : RSc h' y F sz ld Fc sc := by
  obtain ⟨⟨g, r3, r4⟩, ⟨gn, r5, r6⟩, r7, ⟨gf, r8⟩, ⟨gp, gl, r9, r10⟩, r11, r12, r13⟩ := r
  refine ⟨⟨g, (e _ (by omega)).trans r3, r4⟩, ⟨gn, (e _ (by omega)).trans r5, r6⟩, E, ⟨gf, (e _ (by omega)).trans r8⟩, ⟨gp, gl, (e _ (by omega)).trans r9, (e _ (by omega)).trans r10⟩, r11, r12, fun z => ?_⟩
  obtain ⟨⟨⟨gf, m1, m2⟩, gp, gl, m3, m4, m5⟩, r14⟩ := r13 z
  exact ⟨⟨⟨gf, (e _ (by omega)).trans m1, m2⟩, gp, gl, (e _ (by omega)).trans m3, (e _ (by omega)).trans m4, m5⟩, r14⟩
theorem RSc.ml {h h' : q_H} {y : Nat} {F : Nat → Nat} {sz : Nat} {ld : Bool} {Fc : Nat → Nat} {sc : Nat} (r : RSc h y F sz ld Fc sc) (m : ML h h' y) (E : MoE h' y) : RSc h' y F sz ld Fc sc := by
  obtain ⟨⟨g, r3, r4⟩, ⟨gn, r5, r6⟩, r7, ⟨gf, r8⟩, ⟨gp, gl, r9, r10⟩, r11, r12, r13⟩ := r
  obtain ⟨e, mm⟩ := m
  obtain ⟨gp', gl', n1, n2, n3⟩ := mm gp gl r9 r10
  refine ⟨⟨g, (e _ (by omega)).trans r3, r4⟩, ⟨gn, (e _ (by omega)).trans r5, r6⟩, E, ⟨gf, (e _ (by omega)).trans r8⟩, ⟨gp', gl', n1, n2⟩, r11, r12, fun z => ?_⟩
  obtain ⟨⟨⟨gf, m1, m2⟩, gp2, gl2, m3, m4, m5⟩, r14⟩ := r13 z
  obtain ⟨gp3, gl3, k1, k2, k3⟩ := mm gp2 gl2 m3 m4
  refine ⟨⟨⟨gf, (e _ (by omega)).trans m1, m2⟩, gp3, gl3, k1, k2, fun t ht => ?_⟩, r14⟩
  have a1 := k3 (8 + t) (by omega)
  have a2 := m5 t ht
  exact ⟨a1.1.trans a2.1, a1.2.trans a2.2⟩
theorem RSc.R {h : q_H} {y : Nat} {F : Nat → Nat} {sz : Nat} {ld : Bool} {Fc : Nat → Nat} {sc : Nat} (r : RSc h y F sz ld Fc sc) (z : ld = true) : MoR h y 1 Fc sc ∧ FORM_ok Fc sc ∧ ALL_ok Fc sc := by
  obtain ⟨⟨⟨gf, m1, m2⟩, gp, gl, m3, m4, m5⟩, r14, r15, r16, r17⟩ := r.2.2.2.2.2.2.2 z
  exact ⟨⟨Or.inr ⟨rfl, gf, m1, m2⟩, ⟨gp, gl, m3, m4, Or.inr ⟨rfl, m5⟩⟩, r14, r15, fun t _ => TB_in r16.1 t⟩, r16.2.2, r17⟩
section E1
variable {G : q_G} {l : Launch} {d n y sz sc : Nat} {F Fc : Nat → Nat} {ld : Bool} {h : q_H} {Q : q_P}
theorem r_thrown {fa : Int32} (r : RA h y fa) (hq : Q (some (.int fa)) h n) : q_Call G l M_Mo_thrown d 0 0 [.ref y] h n Q := by
  obtain ⟨si, fo, wi, of_, bd, pr, le, r1⟩ := r
  have e := Mh_of r1
  rw [← e] at hq ⊢
  exact c_Mo_thrown hq
theorem r_feed0 {a b c e f : Int32} (r : RS h y F sz ld Fc sc) (hs : 16384 < sz + 20) (hq : ∀ h', RP h h' y 0 F sz ld Fc sc → Q (some (.int (-1))) h' n) : q_Call G l M_Mo_feed (d + 1) 0 0 [.ref y, .int a, .int b, .int c, .int e, .int f] h n Q := by
  obtain ⟨⟨fa, wi, of_, pr, le, bd, r1, r2⟩, rc⟩ := r
  have rc : RSc h y F sz ld Fc sc := rc
  rw [← Mh_of r1]
  exact c_Mo_feed rc.1 rc.2.2.2.2.2.1 (fun _ => hq _ (RP.of rc (fun _ _ => rfl) r2)) (fun z => absurd z (by omega))
theorem r_feed1 {a b c e f : Int32} (r : RS h y F sz ld Fc sc) (hs : sz + 20 ≤ 16384) (hq : ∀ h', RP h h' y 0 (FW (FW (FW (FW (FW F sz a) (sz + 4) b) (sz + 8) c) (sz + 12) e) (sz + 16) f) (sz + 20) ld Fc sc → Q (some (.int (nI (sz + 20)))) h' n) : q_Call G l M_Mo_feed (d + 1) 0 0 [.ref y, .int a, .int b, .int c, .int e, .int f] h n Q := by
  obtain ⟨⟨fa, wi, of_, pr, le, bd, r1, r2⟩, rc⟩ := r
  have rc : RSc h y F sz ld Fc sc := rc
  rw [← Mh_of r1]
  have hb : ∀ j, F j < 256 := rc.2.2.2.2.2.2.1
  exact c_Mo_feed rc.1 rc.2.2.2.2.2.1 (fun z => absurd z (by omega)) (fun _ h' t T => hq _ (RP.of (rc.tp t T hs (FW_lt (FW_lt (FW_lt (FW_lt (FW_lt hb)))))) (fun b hb => t b (by omega)) r2))
theorem r_putR {k v : Nat} (r : RS h y F sz ld Fc sc) (hk : k < sz) (hv : v < 256) (hq : ∀ h', RP h h' y 0 (Fup F k v) sz ld Fc sc → Q (some (.int (nI (F k)))) h' n) : q_Call G l M_Mo_put (d + 1) 0 0 [.ref y, .int (nI k), .int (nI v)] h n Q := by
  obtain ⟨⟨fa, wi, of_, pr, le, bd, r1, r2⟩, rc⟩ := r
  have rc : RSc h y F sz ld Fc sc := rc
  rw [← Mh_of r1]
  have hs := rc.2.2.2.2.2.1
  have hb : ∀ j, F j < 256 := rc.2.2.2.2.2.2.1
  refine c_Mo_put rc.1 hs (fun z => absurd rfl (z k hk)) (fun _ _ _ z => absurd rfl (z v hv)) (fun k' hk' ek v' hv' ev h' t T => ?_)
  cases (nI_inj (by omega) (by omega)).1 ek
  cases (nI_inj (by omega) (by omega)).1 ev
  exact hq _ (RP.of (rc.tp t T hs (Fup_lt hb hv)) (fun b hb => t b (by omega)) r2)
theorem r_putT0 {i b : Int32} (r : RS h y F sz ld Fc sc) (hi : ∀ k, k < sz → i ≠ nI k) (hq : ∀ h', RP h h' y 1 F sz ld Fc sc → Q (some (.int 0)) h' n) : q_Call G l M_Mo_put (d + 1) 0 0 [.ref y, .int i, .int b] h n Q := by
  obtain ⟨⟨fa, wi, of_, pr, le, bd, r1, r2⟩, rc⟩ := r
  have rc : RSc h y F sz ld Fc sc := rc
  rw [← Mh_of r1]
  exact c_Mo_put rc.1 rc.2.2.2.2.2.1 (fun _ => hq _ (RP.of rc (fun _ _ => rfl) r2)) (fun k hk ek => absurd ek (hi k hk)) (fun k hk ek => absurd ek (hi k hk))
theorem r_putT1 {k : Nat} {b : Int32} (r : RS h y F sz ld Fc sc) (hk : k < sz) (hb : ∀ v, v < 256 → b ≠ nI v) (hq : ∀ h', RP h h' y 2 F sz ld Fc sc → Q (some (.int 0)) h' n) : q_Call G l M_Mo_put (d + 1) 0 0 [.ref y, .int (nI k), .int b] h n Q := by
  obtain ⟨⟨fa, wi, of_, pr, le, bd, r1, r2⟩, rc⟩ := r
  have rc : RSc h y F sz ld Fc sc := rc
  rw [← Mh_of r1]
  exact c_Mo_put rc.1 rc.2.2.2.2.2.1 (fun z => absurd rfl (z k hk)) (fun _ _ _ _ => hq _ (RP.of rc (fun _ _ => rfl) r2)) (fun _ _ _ v hv ev => absurd ev (hb v hv))
theorem r_at {i : Int32} (r : RS h y F sz ld Fc sc) (q1 : ∀ k, k < sz → i = nI k → ∀ h', RP h h' y 0 F sz ld Fc sc → Q (some (.int (nI (F k)))) h' n) (q0 : (∀ k, k < sz → i ≠ nI k) → ∀ h', RP h h' y 0 F sz ld Fc sc → Q (some (.int (-1))) h' n) : q_Call G l M_Mo_at d 0 0 [.ref y, .int i] h n Q := by
  obtain ⟨⟨fa, wi, of_, pr, le, bd, r1, r2⟩, rc⟩ := r
  have rc : RSc h y F sz ld Fc sc := rc
  rw [← Mh_of r1]
  exact c_Mo_at rc.1 rc.2.2.2.2.2.1 (fun k hk ek => q1 k hk ek _ (RP.of rc (fun _ _ => rfl) r2)) (fun z => q0 z _ (RP.of rc (fun _ _ => rfl) r2))
theorem r_cutR {k : Nat} (r : RS h y F sz ld Fc sc) (hk : k < 2 ^ 31) (hq : ∀ h', RP h h' y 0 F (sz - (sz - k)) ld Fc sc → Q (some (.int (nI (sz - k)))) h' n) : q_Call G l M_Mo_cut (d + 1) 0 0 [.ref y, .int (nI k)] h n Q := by
  obtain ⟨⟨fa, wi, of_, pr, le, bd, r1, r2⟩, rc⟩ := r
  have rc : RSc h y F sz ld Fc sc := rc
  rw [← Mh_of r1]
  have hs := rc.2.2.2.2.2.1
  have hb : ∀ j, F j < 256 := rc.2.2.2.2.2.2.1
  refine c_Mo_cut hs (fun z => absurd z (nI_pos hk)) (fun k' hk' ek => ?_)
  cases (nI_inj hk hk').1 ek
  obtain ⟨g, t1, t2⟩ := rc.1
  exact hq _ (RP.of (rc.tp (fun _ _ => rfl) ⟨g, t1, fun j hj => t2 j (by omega)⟩ (by omega) hb) (fun _ _ => rfl) r2)
theorem r_cutT {x : Int32} (r : RS h y F sz ld Fc sc) (hx : x < 0) (hq : ∀ h', RP h h' y 1 F sz ld Fc sc → Q (some (.int 0)) h' n) : q_Call G l M_Mo_cut (d + 1) 0 0 [.ref y, .int x] h n Q := by
  obtain ⟨⟨fa, wi, of_, pr, le, bd, r1, r2⟩, rc⟩ := r
  have rc : RSc h y F sz ld Fc sc := rc
  rw [← Mh_of r1]
  exact c_Mo_cut rc.2.2.2.2.2.1 (fun _ => hq _ (RP.of rc (fun _ _ => rfl) r2)) (fun k hk ek => absurd (ek ▸ hx) (nI_pos hk))
theorem r_load {ch : Bool} (r : RS h y F sz ld Fc sc) (q1 : ∀ x, WRONG F sz ch x → ∀ h', RP h h' y 0 F sz ld Fc sc → Q (some (.int x)) h' n) (q2 : RIGHT F sz ch → ¬ ALL_ok F sz → ∀ h', RP h h' y 0 F sz ld Fc sc → Q (some (.int (-5))) h' n) (q0 : RIGHT F sz ch → ALL_ok F sz → ∀ h', RP h h' y 0 F sz true F sz → Q (some (.int (nI (f_N F sz)))) h' n) : q_Call G l M_Mo_load (d + 9) 0 0 [.ref y, .int (bI ch)] h n Q := by
  obtain ⟨⟨fa, wi, of_, pr, le, bd, r1, r2⟩, rc⟩ := r
  have rc : RSc h y F sz ld Fc sc := rc
  rw [← Mh_of r1]
  obtain ⟨hT, hN, E, h2, hP, hs, hb, hC⟩ := id rc
  refine c_Mo_load rfl hT hs hb hN E h2 hP (fun x hx h' pr' le' m E' => ?_) (fun hr ha h' pr' le' m E' => ?_) (fun hr ha h' pr' le' t C E' => ?_)
  · exact q1 x hx _ (RP.of (rc.ml m E') (fun b hb => m.1 b (by omega)) r2)
  · exact q2 hr ha _ (RP.of (rc.ml m E') (fun b hb => m.1 b (by omega)) r2)
  · obtain ⟨⟨g, r3, r4⟩, ⟨gn, r5, r6⟩, -⟩ := rc
    obtain ⟨⟨gf, m1, m2⟩, gp, gl, m3, m4, m5⟩ := id C
    exact q0 hr ha _ (RP.of (ld := true) (Fc := F) (sc := sz) ⟨⟨g, (t _ (by omega)).trans r3, r4⟩, ⟨gn, (t _ (by omega)).trans r5, r6⟩, E', ⟨gf, m1⟩, ⟨gp, gl, m3, m4⟩, hs, hb, fun _ => ⟨C, hs, hb, hr.fnt, ha⟩⟩ (fun b hb => t b (by omega)) (fun _ => rfl))
end E1
