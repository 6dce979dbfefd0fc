/-! the class's feed, at and font-free calls over the loop's state -/
theorem FoK.cp {h h' : q_H} {o : Nat} {F : Nat → Nat} {sz : Nat} (k : FoK h o F sz) (e : ∀ b, b = o ∨ (o + 4 ≤ b ∧ b ≤ o + 12) → h' b = h b) : FoK h' o F sz := by
  obtain ⟨k0, ⟨st, ln, k1⟩, k2, k3, k4, k5, k6, k7, k8, k9⟩ := k
  exact ⟨(e _ (by omega)).trans k0, ⟨st, ln, (e _ (by omega)).trans k1⟩, (e _ (by omega)).trans k2, (e _ (by omega)).trans k3, (e _ (by omega)).trans k4, (e _ (by omega)).trans k5, (e _ (by omega)).trans k6, (e _ (by omega)).trans k7, (e _ (by omega)).trans k8, (e _ (by omega)).trans k9⟩
/-- the cells of the class that no row of bytes lies in -/
def x_in (x b : Nat) : Prop := x ≤ b ∧ b < x + 48 ∧ b ≠ x + 1 ∧ b ≠ x + 2 ∧ b ≠ x + 4 ∧ b ≠ x + 5 ∧ b ≠ x + 17 ∧ b ≠ x + 18
theorem CS0.cp {h h' : q_H} {x cur spa : Nat} {ld : Bool} {sh : Int32} (c : CS0 h x cur spa ld sh) (e : ∀ b, x_in x b → h' b = h b) : CS0 h' x cur spa ld sh := by
  unfold x_in at e
  obtain ⟨c1, c2, c3, c4, ⟨s1, l1, c5⟩, ⟨s2, l2, c6⟩, c7⟩ := c
  exact ⟨(e x (by omega)).trans c1, c2, c3.cp (fun b hb => e b (by omega)), c4.cp (fun b hb => e b (by omega)), ⟨s1, l1, (e _ (by omega)).trans c5⟩, ⟨s2, l2, (e _ (by omega)).trans c6⟩, c7.mv (fun b b1 b2 => e b (by omega))⟩
theorem CS2.cp {h h' : q_H} {x cur : Nat} {ld : Bool} {sh : Int32} {Fc : Nat → Nat} {sc : Nat} (hc : cur = x + 3 ∨ cur = x + 16) (c : CS2 h x cur ld sh Fc sc) (e : ∀ b, x_in x b → h' b = h b) : CS2 h' x cur ld sh Fc sc := by
  unfold x_in at e
  refine ⟨fun z => ⟨(c.1 z).1.cp (fun b hb => e b (by omega)), (c.1 z).2⟩, fun k hk z => ⟨(c.2 k hk z).1, (c.2 k hk z).2.mv (fun b b1 b2 => e b (by omega))⟩⟩
theorem s_feed0 {G : q_G} {l : Launch} {d n x sz sc P : Nat} {a b c e f : Int32} {F Fc : Nat → Nat} {ld : Bool} {h : q_H} {Q : q_P} (cs : CS h n x F sz ld Fc sc P) (hs : 16384 < sz + 20) (hq : Q (some (.int (-1))) h n) : q_Call G l M_FO_feed d 0 0 [.ref x, .int a, .int b, .int c, .int e, .int f] h n Q := by
  obtain ⟨cur, spa, sh, ra, rc, rs, ma, mc, ms, c0, c1, c2, c3⟩ := cs
  obtain ⟨g, hB⟩ := c1.1
  exact c_FO_feed0 c0.1 hB hs hq
theorem s_at {G : q_G} {l : Launch} {d n x sz sc P : Nat} {i : Int32} {F Fc : Nat → Nat} {ld : Bool} {h : q_H} {Q : q_P} (cs : CS h n x F sz ld Fc sc P) (q1 : ∀ k, k < sz → i = nI k → Q (some (.int (nI (F k)))) h n) (q0 : (∀ k, k < sz → i ≠ nI k) → Q (some (.int (-1))) h n) : q_Call G l M_FO_at (d + 1) 0 0 [.ref x, .int i] h n Q := by
  obtain ⟨cur, spa, sh, ra, rc, rs, ma, mc, ms, c0, c1, c2, c3⟩ := cs
  obtain ⟨g, hB⟩ := c1.1
  exact c_FO_at c0.1 hB q1 q0
theorem GP_49 {m : Nat} (h : m ≤ 16384) : GP m ≤ 49152 := by
  unfold GP
  split <;> omega
theorem s_feed1 {G : q_G} {l : Launch} {d n x sz sc P : Nat} {a b c e f : Int32} {F Fc : Nat → Nat} {ld : Bool} {h : q_H} (cs : CS h n x F sz ld Fc sc P) (hs : sz + 20 ≤ 16384) : ∃ mc' ms' P', mc' ≤ 1 ∧ ms' + P ≤ P' ∧ P' ≤ 147456 ∧ ∀ Q : q_P, (∀ h', (∀ b, x + 48 ≤ b → b ≤ x + 73 → h' b = h b) → CS h' (n + mc') x (FW (FW (FW (FW (FW F sz a) (sz + 4) b) (sz + 8) c) (sz + 12) e) (sz + 16) f) (sz + 20) ld Fc sc P' → Q (some (.int (nI (sz + 20)))) h' (n + mc')) → q_Call G l M_FO_feed (d + 3) mc' ms' [.ref x, .int a, .int b, .int c, .int e, .int f] h n Q := by
  obtain ⟨cur, spa, sh, ra, rc, rs, ma, mc, ms, c0, c1, c2, c3⟩ := cs
  obtain ⟨⟨g1, b1⟩, ⟨g2, b2⟩, ⟨g3, ss, Fs, b3⟩, r1, r2, r3, n1, n2, n3, hx, w1, w2, w3⟩ := c1
  have hcs := c0.2.1
  have hg := GP_ok (m := ma) (k := sz + 20) hs b1.2.2.2.1
  have q1 := GP_49 hg.2.2.1
  have q2 := GP_49 b2.2.2.2.1
  have q3 := GP_49 b3.2.2.2.1
  refine ⟨GC ma (sz + 20), GS ma (sz + 20), GP (GL ma (sz + 20)) + GP mc + GP ms, ?_, by omega, by omega, fun Q hq => ?_⟩
  · unfold GC; split <;> omega
  refine c_FO_feed1 c0.1 b1 hs r1.1 (by omega) (fun h' g' row' p1 p2 t B' => ?_)
  have e1 := r1.2
  have e2 := r2.2
  have e3 := r3.2
  have e4 := r1.1
  have e5 := r2.1
  have e6 := r3.1
  have t' : ∀ b, b < n → b ≠ x + 1 → b ≠ ra → h' b = h b := t
  refine hq h' (fun b b1 b2 => t' b (by omega) (by omega) (by omega)) ⟨cur, spa, sh, row', rc, rs, _, mc, ms, c0.cp (fun b hb => t' b (by unfold x_in at hb; omega) (by unfold x_in at hb; omega) (by unfold x_in at hb; omega)), ⟨⟨g', B'⟩, ⟨g2, b2.mv (t' _ (by omega) (by omega) (by omega)) (t' _ e5 (by omega) (by omega))⟩, ⟨g3, ss, Fs, b3.mv (t' _ (by omega) (by omega) (by omega)) (t' _ e6 (by omega) (by omega))⟩, ⟨p2, by omega⟩, r2.le (by omega), r3.le (by omega), by omega, by omega, n3, by omega, by omega, w2, w3⟩, c2.cp (by omega) (fun b hb => t' b (by unfold x_in at hb; omega) (by unfold x_in at hb; omega) (by unfold x_in at hb; omega)), rfl⟩
