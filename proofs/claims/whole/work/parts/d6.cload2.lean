theorem nI_m1 {k : Nat} (hk : k < 65536) : ¬ (-1 : Int32) = nI k := fun e => by
  have h1 := nI_pos (n := k) (by omega)
  rw [← e] at h1
  exact h1 (by decide)
theorem s_load {G : q_G} {l : Launch} {d n x sz sc P : Nat} {F Fc : Nat → Nat} {ld ch : Bool} {h : q_H} (cs : CS h n x F sz ld Fc sc P) : ∃ mc' ms' P', mc' ≤ 1 ∧ ms' + P ≤ P' ∧ P' ≤ 147456 ∧ ∀ Q : q_P,
    (∀ y, WRONG F sz ch y → ∀ h', (∀ b, x + 48 ≤ b → b ≤ x + 73 → h' b = h b) → CS h' (n + mc') x F sz ld Fc sc P' → Q (some (.int y)) h' (n + mc')) →
    (RIGHT F sz ch → ¬ ALL_ok F sz → ∀ h', (∀ b, x + 48 ≤ b → b ≤ x + 73 → h' b = h b) → CS h' (n + mc') x F sz ld Fc sc P' → Q (some (.int (-5))) h' (n + mc')) →
    (RIGHT F sz ch → ALL_ok F sz → ∀ h', (∀ b, x + 48 ≤ b → b ≤ x + 73 → h' b = h b) → CS h' (n + mc') x F sz true F sz P' → Q (some (.int (nI (f_N F sz)))) h' (n + mc')) →
    q_Call G l M_FO_load (d + 18) mc' ms' [.ref x, .int (if ch = true then 1 else 0)] h n Q := by
  obtain ⟨cur, spa, sh, ra, rc, rs, ma, mc, ms, c0, c1, c2, c3⟩ := cs
  obtain ⟨⟨g1, b1⟩, ⟨g2, b2⟩, ⟨g3, ss, Fs, b3⟩, r1, r2, r3, n1, n2, n3, hx, w1, w2, w3⟩ := id c1
  have hcs := c0.2.1
  have hsz : sz ≤ 16384 := Nat.le_trans b1.2.2.1 b1.2.2.2.1
  have hg := GP_ok (m := ms) (k := sz) hsz b3.2.2.2.1
  have q1 := GP_49 hg.2.2.1
  have q2 := GP_49 b2.2.2.2.1
  have q3 := GP_49 b1.2.2.2.1
  have hgc : GC ms sz ≤ 1 := by unfold GC; split <;> omega
  obtain ⟨st, ln, hW⟩ := c0.2.2.2.2.2.1
  refine ⟨GC ms sz, GS ms sz, GP ma + GP mc + GP (GL ms sz), hgc, by omega, by omega, fun Q k1 k2 k3 => ?_⟩
  have bad : ∀ h' g' row', (row' = rs ∨ n ≤ row') → row' < n + GC ms sz → LDP h h' n x spa rs row' (GL ms sz) g' F sz → h' x = some (.inr (7, [.ref (x + 1), .ref (x + 29), .ref cur, .ref spa, .int (bI ld), .int (-1)])) → (∀ b, x + 48 ≤ b → b ≤ x + 73 → h' b = h b) ∧ CS h' (n + GC ms sz) x F sz ld Fc sc (GP ma + GP mc + GP (GL ms sz)) := by
    intro h' g' row' p1 p2 hl o
    obtain ⟨d1, d2, d3, d4, d5, d6, d7, d8⟩ := CS.ofLoad c0 c1 (n' := n + GC ms sz) (by omega) p1 p2 hl
    exact ⟨d7, cur, spa, -1, ra, rc, row', ma, mc, _, ⟨o, hcs, d2, d3, d4, d5, d6⟩, d1, ⟨fun z => ⟨(c2.1 z).1.cp d8, (c2.1 z).2⟩, fun k hk e => absurd e (nI_m1 hk)⟩, rfl⟩
  refine c_FO_load c0.1 (by omega) b1 b3 hW c0.2.2.2.1 c0.2.2.2.2.2.2 r1 r3 (fun e => n2 e.symm) hx (fun y hy h' g' row' p1 p2 hl o => ?_) (fun hr ha h' g' row' p1 p2 hl o => ?_) (fun hr ha h' g' row' p1 p2 hl hK o => ?_)
  · obtain ⟨e1, e2⟩ := bad h' g' row' p1 p2 hl o
    exact k1 y hy h' e1 e2
  · obtain ⟨e1, e2⟩ := bad h' g' row' p1 p2 hl o
    exact k2 hr ha h' e1 e2
  · obtain ⟨d1, d2, d3, d4, d5, d6, d7, d8⟩ := CS.ofLoad c0 c1 (n' := n + GC ms sz) (by omega) p1 p2 hl
    obtain ⟨f1, f2, f3, f4, f5, f6, f7, f8, f9, f10, f11, f12, f13⟩ := d1
    exact k3 hr ha h' d7 ⟨spa, cur, -1, ra, row', rc, ma, _, mc, ⟨o, by omega, d3, d2, d5, d4, d6⟩, ⟨f1, ⟨g', hl.2.1⟩, ⟨f2.choose, sc, Fc, f2.choose_spec⟩, f4, f6, f5, f8, f7, fun e => f9 e.symm, f10, f11, f13, f12⟩, ⟨fun _ => ⟨hK, hr.fnt, ha⟩, fun k hk e => absurd e (nI_m1 hk)⟩, by omega⟩
