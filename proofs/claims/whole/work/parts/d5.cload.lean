/-! the class's load, over the loop's state -/
theorem CS.ofLoad {h h' : q_H} {n x sz sc cur spa ra rc rs ma mc ms row' m' : Nat} {F Fc : Nat → Nat} {g' : Nat → Int32} {ld : Bool} {sh : Int32} (c0 : CS0 h x cur spa ld sh) (c1 : CS1 h n x cur spa F sz Fc sc ra rc rs ma mc ms) {n' : Nat} (hn : n ≤ n') (p1 : row' = rs ∨ n ≤ row') (p2 : row' < n') (hl : LDP h h' n x spa rs row' m' g' F sz) : CS1 h' n' x cur spa F sz Fc sc ra rc row' ma mc m' ∧ FoJ h' cur ∧ FoJ h' spa ∧ (∃ st ln, q_Ta h' (cur + 3) (cur + 1) st ln) ∧ (∃ st ln, q_Ta h' (spa + 3) (spa + 1) st ln) ∧ OuJ h' (x + 29) ∧ (∀ b, x + 48 ≤ b → b ≤ x + 73 → h' b = h b) ∧ ∀ b, b = cur ∨ (cur + 4 ≤ b ∧ b ≤ cur + 12) → h' b = h b := by
  obtain ⟨t, B', W', J', U'⟩ := hl
  obtain ⟨⟨g1, b1⟩, ⟨g2, b2⟩, ⟨g3, ss, Fs, b3⟩, r1, r2, r3, n1, n2, n3, hx, w1, w2, w3⟩ := c1
  have hcs := c0.2.1
  have e1 := r1.2
  have e2 := r2.2
  have e3 := r3.2
  have e4 := r1.1
  have e5 := r2.1
  have e6 := r3.1
  obtain ⟨st, ln, hT⟩ := c0.2.2.2.2.1
  refine ⟨⟨⟨g1, b1.mv (t _ (by omega) (by omega) (by omega) (by omega) (by omega)) (t _ (by omega) (by omega) (by omega) (by omega) (by omega))⟩, ⟨g2, b2.mv (t _ (by omega) (by omega) (by omega) (by omega) (by omega)) (t _ (by omega) (by omega) (by omega) (by omega) (by omega))⟩, ⟨g', sz, F, B'⟩, r1.le hn, r2.le hn, ⟨p2, by omega⟩, n1, by omega, by omega, by omega, w1, w2, by omega⟩, c0.2.2.1.cp (fun b hb => t b (by omega) (by omega) (by omega) (by omega) (by omega)), J', ⟨st, ln, (t _ (by omega) (by omega) (by omega) (by omega) (by omega)).trans hT⟩, ⟨_, _, W'⟩, U', fun b b1 b2 => t b (by omega) (by omega) (by omega) (by omega) (by omega), fun b hb => t b (by omega) (by omega) (by omega) (by omega) (by omega)⟩
