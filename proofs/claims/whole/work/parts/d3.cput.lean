/-! the class's put and cut over the loop's state -/
theorem CS.file {h : q_H} {n x sz sc P : Nat} {F Fc : Nat → Nat} {ld : Bool} (cs : CS h n x F sz ld Fc sc P) : ∃ v2 v3 v5 ra ma g, h x = some (.inr (7, [.ref (x + 1), .ref (x + 29), v2, v3, .int (bI ld), v5])) ∧ q_By h (x + 1) ra ma g sz F ∧ ra < n ∧ ∀ h' g' F' sz', (∀ b, b ≠ x + 1 → b ≠ ra → h' b = h b) → q_By h' (x + 1) ra ma g' sz' F' → CS h' n x F' sz' ld Fc sc P ∧ ∀ b, x + 48 ≤ b → b ≤ x + 73 → h' b = h b := by
  obtain ⟨cur, spa, sh, ra, rc, rs, ma, mc, ms, c0, c1, c2, c3⟩ := cs
  obtain ⟨⟨g1, b1⟩, ⟨g2, b2⟩, ⟨g3, ss, Fs, b3⟩, r1, r2, r3, n1, n2, n3, hx, w1, w2, w3⟩ := c1
  have hcs := c0.2.1
  have e1 := r1.2
  have e2 := r2.2
  have e3 := r3.2
  refine ⟨_, _, _, ra, ma, g1, c0.1, b1, r1.1, fun h' g' F' sz' t B' => ⟨⟨cur, spa, sh, ra, rc, rs, ma, mc, ms, c0.cp (fun b hb => t b (by unfold x_in at hb; omega) (by unfold x_in at hb; omega)), ⟨⟨g', B'⟩, ⟨g2, b2.mv (t _ (by omega) (by omega)) (t _ (by omega) (by omega))⟩, ⟨g3, ss, Fs, b3.mv (t _ (by omega) (by omega)) (t _ (by omega) (by omega))⟩, r1, r2, r3, n1, n2, n3, hx, w1, w2, w3⟩, c2.cp (by omega) (fun b hb => t b (by unfold x_in at hb; omega) (by unfold x_in at hb; omega)), c3⟩, fun b b1 b2 => t b (by omega) (by omega)⟩⟩
theorem s_putR {G : q_G} {l : Launch} {d n x sz sc P k v : Nat} {F Fc : Nat → Nat} {ld : Bool} {h : q_H} {Q : q_P} (cs : CS h n x F sz ld Fc sc P) (hk : k < sz) (hv : v < 256) (hq : ∀ h', (∀ b, x + 48 ≤ b → b ≤ x + 73 → h' b = h b) → CS h' n x (Fup F k v) sz ld Fc sc P → Q (some (.int (nI (F k)))) h' n) : q_Call G l M_FO_put (d + 1) 0 0 [.ref x, .int (nI k), .int (nI v)] h n Q := by
  obtain ⟨v2, v3, v5, ra, ma, g, hO, hB, -, fin⟩ := cs.file
  refine c_FO_putR hO hB hk hv (fun h' g' t B' => ?_)
  obtain ⟨c1, c2⟩ := fin h' g' _ _ (fun b b1 b2 => t b b2) B'
  exact hq h' c2 c1
theorem s_putT0 {G : q_G} {l : Launch} {d n x sz sc P : Nat} {i b : Int32} {F Fc : Nat → Nat} {ld : Bool} {h : q_H} {Tq : q_T} (hlt : l.stackTraces = false) (cs : CS h n x F sz ld Fc sc P) (hi : ∀ k, k < sz → i ≠ nI k) (kk : Tq 0 h (n + 1)) : q_Thr G l M_FO_put (d + 6) 1 6 [.ref x, .int i, .int b] h n Tq := by
  obtain ⟨v2, v3, v5, ra, ma, g, hO, hB, -, fin⟩ := cs.file
  exact c_FO_putT0 hlt hO hB hi kk
theorem s_putT1 {G : q_G} {l : Launch} {d n x sz sc P k : Nat} {b : Int32} {F Fc : Nat → Nat} {ld : Bool} {h : q_H} {Tq : q_T} (hlt : l.stackTraces = false) (cs : CS h n x F sz ld Fc sc P) (hk : k < sz) (hb : ∀ v, v < 256 → b ≠ nI v) (kk : Tq 1 h (n + 1)) : q_Thr G l M_FO_put (d + 6) 1 6 [.ref x, .int (nI k), .int b] h n Tq := by
  obtain ⟨v2, v3, v5, ra, ma, g, hO, hB, -, fin⟩ := cs.file
  exact c_FO_putT1 hlt hO hB hk hb kk
theorem s_cutR {G : q_G} {l : Launch} {d n x sz sc P k : Nat} {F Fc : Nat → Nat} {ld : Bool} {h : q_H} {Q : q_P} (cs : CS h n x F sz ld Fc sc P) (hk : k < 2 ^ 31) (hq : ∀ h', (∀ b, x + 48 ≤ b → b ≤ x + 73 → h' b = h b) → CS h' n x F (sz - (sz - k)) ld Fc sc P → Q (some (.int (nI (sz - k)))) h' n) : q_Call G l M_FO_cut d 0 0 [.ref x, .int (nI k)] h n Q := by
  obtain ⟨v2, v3, v5, ra, ma, g, hO, hB, -, fin⟩ := cs.file
  refine c_FO_cutR hO hB hk (fun h' t B' => ?_)
  obtain ⟨c1, c2⟩ := fin h' g _ _ (fun b b1 b2 => t b b1) B'
  exact hq h' c2 c1
/-- the class with a font -/
theorem CS.font {h : q_H} {n x sz sc P : Nat} {F Fc : Nat → Nat} (cs : CS h n x F sz true Fc sc P) : ∃ cur v3 sh rc mc g, h x = some (.inr (7, [.ref (x + 1), .ref (x + 29), .ref cur, v3, .int 1, .int sh])) ∧ x < cur ∧ rc ≠ x ∧ q_ap (x + 29) cur rc ∧ FNT Fc sc ∧ ALL_ok Fc sc ∧ FoK h cur Fc sc ∧ q_By h (cur + 1) rc mc g sc Fc ∧ OuJ h (x + 29) ∧ (∀ k, k < 65536 → sh = nI k → SHN h (x + 29) Fc sc k) ∧ ∀ h' k, k < 65536 → SHW h h' x (.ref (x + 1)) v3 cur Fc sc k → CS h' n x F sz true Fc sc P ∧ ∀ b, x + 48 ≤ b → b ≤ x + 73 → h' b = h b := by
  obtain ⟨cur, spa, sh, ra, rc, rs, ma, mc, ms, c0, c1, c2, c3⟩ := cs
  obtain ⟨⟨g1, b1⟩, ⟨g2, b2⟩, ⟨g3, ss, Fs, b3⟩, r1, r2, r3, n1, n2, n3, hx, w1, w2, w3⟩ := c1
  have hcs := c0.2.1
  have e1 := r1.2
  have e2 := r2.2
  have e3 := r3.2
  obtain ⟨hK, hF, hA⟩ := c2.1 rfl
  refine ⟨cur, .ref spa, sh, rc, mc, g2, c0.1, by omega, by omega, ⟨by omega, by omega⟩, hF, hA, hK, b2, c0.2.2.2.2.2.2, fun k hk z => (c2.2 k hk z).2, fun h' k hk hs => ?_⟩
  obtain ⟨o1, t, s1⟩ := hs
  refine ⟨⟨cur, spa, nI k, ra, rc, rs, ma, mc, ms, ⟨o1, hcs, c0.2.2.1.cp (fun b hb => t b (by omega) (by omega)), c0.2.2.2.1.cp (fun b hb => t b (by omega) (by omega)), ?_, ?_, s1.oj⟩, ⟨⟨g1, b1.mv (t _ (by omega) (by omega)) (t _ (by omega) (by omega))⟩, ⟨g2, b2.mv (t _ (by omega) (by omega)) (t _ (by omega) (by omega))⟩, ⟨g3, ss, Fs, b3.mv (t _ (by omega) (by omega)) (t _ (by omega) (by omega))⟩, r1, r2, r3, n1, n2, n3, hx, w1, w2, w3⟩, ⟨fun _ => ⟨hK.cp (fun b hb => t b (by omega) (by omega)), hF, hA⟩, fun k' hk' e => ⟨rfl, ?_⟩⟩, c3⟩, fun b b1 b2 => t b (by omega) (by omega)⟩
  · obtain ⟨st, ln, q⟩ := c0.2.2.2.2.1
    exact ⟨st, ln, (t _ (by omega) (by omega)).trans q⟩
  · obtain ⟨st, ln, q⟩ := c0.2.2.2.2.2.1
    exact ⟨st, ln, (t _ (by omega) (by omega)).trans q⟩
  · have := congrArg Int32.toNatClampNeg e
    rw [nI_clamp (by omega), nI_clamp (by omega)] at this
    rw [← this]
    exact s1
