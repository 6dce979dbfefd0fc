/-! the reference's questions to its font, over the loop's state -/
section E2
variable {G : q_G} {l : Launch} {d n y sz sc : Nat} {F Fc : Nat → Nat} {h : q_H} {Q : q_P}
theorem r_glyphN {x : Int32} (r : RS h y F sz false Fc sc) (hq : ∀ h', RP h h' y 1 F sz false Fc sc → Q (some (.int 0)) h' n) : q_Call G l M_Mo_glyph (d + 7) 0 0 [.ref y, .int x] h n Q := by
  obtain ⟨⟨fa, wi, of_, pr, le, bd, r1, r2⟩, rc⟩ := r
  have rc : RSc h y F sz false Fc sc := rc
  rw [← Mh_of r1]
  exact c_Mo_glyph (F := Fc) (sz := sc) (fun z => by cases z) (fun _ => hq _ (RP.of rc (fun _ _ => rfl) r2)) (fun z => by cases z) (fun z => by cases z)
theorem r_glyphT {x : Int32} (r : RS h y F sz true Fc sc) (hx : ∀ k, k < 1114112 → x ≠ nI k) (hq : ∀ h', RP h h' y 2 F sz true Fc sc → Q (some (.int 0)) h' n) : q_Call G l M_Mo_glyph (d + 7) 0 0 [.ref y, .int x] h n Q := by
  obtain ⟨⟨fa, wi, of_, pr, le, bd, r1, r2⟩, rc⟩ := r
  have rc : RSc h y F sz true Fc sc := rc
  rw [← Mh_of r1]
  exact c_Mo_glyph (F := Fc) (sz := sc) (fun z => ⟨(rc.R z).1, (rc.R z).2.1.2.2, r2 z⟩) (fun z => by cases z) (fun _ _ => hq _ (RP.of rc (fun _ _ => rfl) r2)) (fun _ k hk ek => absurd ek (hx k hk))
theorem r_glyphR {k : Nat} (r : RS h y F sz true Fc sc) (hk : k < 1114112) (hq : ∀ h', RP h h' y 0 F sz true Fc sc → Q (some (.int (nI (cap (f_N Fc sc) (GLY Fc (t_cm Fc sc).1 (t_cm Fc sc).2 (mp_w Fc sc) (mp_p Fc sc) (mp_n Fc sc) k))))) h' n) : q_Call G l M_Mo_glyph (d + 7) 0 0 [.ref y, .int (nI k)] h n Q := by
  obtain ⟨⟨fa, wi, of_, pr, le, bd, r1, r2⟩, rc⟩ := r
  have rc : RSc h y F sz true Fc sc := rc
  rw [← Mh_of r1]
  refine c_Mo_glyph (F := Fc) (sz := sc) (fun z => ⟨(rc.R z).1, (rc.R z).2.1.2.2, r2 z⟩) (fun z => by cases z) (fun _ z => absurd rfl (z k hk)) (fun _ k' hk' ek b' => ?_)
  cases (nI_inj (by omega) (by omega)).1 ek
  exact hq _ (RP.of rc (fun _ _ => rfl) r2)
theorem r_fontN {x : Int32} (r : RS h y F sz false Fc sc) (hq : ∀ h', RP h h' y 1 F sz false Fc sc → Q (some (.int 0)) h' n) : q_Call G l M_Mo_font (d + 4) 0 0 [.ref y, .int x] h n Q := by
  obtain ⟨⟨fa, wi, of_, pr, le, bd, r1, r2⟩, rc⟩ := r
  have rc : RSc h y F sz false Fc sc := rc
  rw [← Mh_of r1]
  exact c_Mo_font (F := Fc) (sz := sc) (fun z => by cases z) (fun _ => hq _ (RP.of rc (fun _ _ => rfl) r2)) (fun z => by cases z) (fun z => by cases z)
theorem r_fontT {x : Int32} (r : RS h y F sz true Fc sc) (hx : ∀ k, k < 2 → x ≠ nI k) (hq : ∀ h', RP h h' y 2 F sz true Fc sc → Q (some (.int 0)) h' n) : q_Call G l M_Mo_font (d + 4) 0 0 [.ref y, .int x] h n Q := by
  obtain ⟨⟨fa, wi, of_, pr, le, bd, r1, r2⟩, rc⟩ := r
  have rc : RSc h y F sz true Fc sc := rc
  rw [← Mh_of r1]
  exact c_Mo_font (F := Fc) (sz := sc) (fun z => ⟨(rc.R z).1, r2 z⟩) (fun z => by cases z) (fun _ _ => hq _ (RP.of rc (fun _ _ => rfl) r2)) (fun _ k hk ek => absurd ek (hx k hk))
theorem r_fontR {k : Nat} (r : RS h y F sz true Fc sc) (hk : k < 2) (hq : ∀ h', RP h h' y 0 F sz true Fc sc → Q (some (.int (if k = 0 then nI (f_EM Fc sc) else bI (mp_w Fc sc)))) h' n) : q_Call G l M_Mo_font (d + 4) 0 0 [.ref y, .int (nI k)] h n Q := by
  obtain ⟨⟨fa, wi, of_, pr, le, bd, r1, r2⟩, rc⟩ := r
  have rc : RSc h y F sz true Fc sc := rc
  rw [← Mh_of r1]
  refine c_Mo_font (F := Fc) (sz := sc) (fun z => ⟨(rc.R z).1, r2 z⟩) (fun z => by cases z) (fun _ z => absurd rfl (z k hk)) (fun _ k' hk' ek b' => ?_)
  cases (nI_inj (by omega) (by omega)).1 ek
  exact hq _ (RP.of rc (fun _ _ => rfl) r2)
theorem RS.N {h : q_H} {y : Nat} {F : Nat → Nat} {sz : Nat} {Fc : Nat → Nat} {sc : Nat} (r : RS h y F sz true Fc sc) : f_N Fc sc ≤ 256 := (r.2.2.2.2.2.2.2.2 rfl).2.2.2.1.2.2.1.2.2.2.2.2.1
theorem r_measureN {x w : Int32} (r : RS h y F sz false Fc sc) (hq : ∀ h', RP h h' y 1 F sz false Fc sc → Q (some (.int 0)) h' n) : q_Call G l M_Mo_measure (d + 9) 0 0 [.ref y, .int x, .int w] h n Q := by
  obtain ⟨⟨fa, wi, of_, pr, le, bd, r1, r2⟩, rc⟩ := r
  have rc : RSc h y F sz false Fc sc := rc
  rw [← Mh_of r1]
  exact c_Mo_measure (F := Fc) (sz := sc) (fun z => by cases z) rc.2.2.1 (fun _ => hq _ (RP.of rc (fun _ _ => rfl) r2)) (fun z => by cases z) (fun z => by cases z)
theorem r_measureT {x w : Int32} (r : RS h y F sz true Fc sc) (hx : (∀ k, k < f_N Fc sc → x ≠ nI k) ∨ ∀ k, k < 8 → w ≠ nI k) (hq : ∀ h', RP h h' y 2 F sz true Fc sc → Q (some (.int 0)) h' n) : q_Call G l M_Mo_measure (d + 9) 0 0 [.ref y, .int x, .int w] h n Q := by
  obtain ⟨⟨fa, wi, of_, pr, le, bd, r1, r2⟩, rc⟩ := r
  have rc : RSc h y F sz true Fc sc := rc
  rw [← Mh_of r1]
  refine c_Mo_measure (F := Fc) (sz := sc) (fun z => rc.R z) rc.2.2.1 (fun z => by cases z) (fun _ _ => hq _ (RP.of rc (fun _ _ => rfl) r2)) (fun _ k hk ek w' hw ew => ?_)
  rcases hx with z | z
  · exact absurd ek (z k hk)
  · exact absurd ew (z w' hw)
theorem r_measureR {k w : Nat} (r : RS h y F sz true Fc sc) (hk : k < f_N Fc sc) (hw : w < 8) {L : List Pt} {rg c' wg : Nat} (hrd : RD Fc sc 6 k 0 = some (L, rg, c', wg)) (hq : ∀ h', RP h h' y 0 F sz true Fc sc → Q (some (.int (MEA Fc sc L rg wg w))) h' n) : q_Call G l M_Mo_measure (d + 9) 0 0 [.ref y, .int (nI k), .int (nI w)] h n Q := by
  have hN := r.N
  obtain ⟨⟨fa, wi, of_, pr, le, bd, r1, r2⟩, rc⟩ := r
  have rc : RSc h y F sz true Fc sc := rc
  rw [← Mh_of r1]
  refine c_Mo_measure (F := Fc) (sz := sc) (fun z => rc.R z) rc.2.2.1 (fun z => by cases z) (fun _ z => ?_) (fun _ k' hk' ek w' hw' ew L' rg' c2 wg' rd h' b' pr' le' E kd => ?_)
  · rcases z with z | z
    · exact absurd rfl (z k hk)
    · exact absurd rfl (z w hw)
  cases (nI_inj (by omega) (by omega)).1 ek
  cases (nI_inj (by omega) (by omega)).1 ew
  rw [hrd] at rd
  cases rd
  exact hq _ (RP.of (rc.kd kd.1 E) (fun b hb => kd.1 b (by omega)) r2)
theorem r_pointN {x ii w : Int32} (r : RS h y F sz false Fc sc) (hq : ∀ h', RP h h' y 1 F sz false Fc sc → Q (some (.int 0)) h' n) : q_Call G l M_Mo_point (d + 9) 0 0 [.ref y, .int x, .int ii, .int w] h n Q := by
  obtain ⟨⟨fa, wi, of_, pr, le, bd, r1, r2⟩, rc⟩ := r
  have rc : RSc h y F sz false Fc sc := rc
  rw [← Mh_of r1]
  exact c_Mo_point (F := Fc) (sz := sc) (fun z => by cases z) rc.2.2.1 (fun _ => hq _ (RP.of rc (fun _ _ => rfl) r2)) (fun z => by cases z) (fun z => by cases z)
theorem r_pointT {x ii w : Int32} (r : RS h y F sz true Fc sc) (hx : (∀ k, k < f_N Fc sc → x ≠ nI k) ∨ (∀ k, k < 4 → w ≠ nI k) ∨ ∃ k L rg c' wg, k < f_N Fc sc ∧ x = nI k ∧ RD Fc sc 6 k 0 = some (L, rg, c', wg) ∧ ∀ j, j < L.length → ii ≠ nI j) (hq : ∀ h', RP h h' y 2 F sz true Fc sc → Q (some (.int 0)) h' n) : q_Call G l M_Mo_point (d + 9) 0 0 [.ref y, .int x, .int ii, .int w] h n Q := by
  have hN := r.N
  obtain ⟨⟨fa, wi, of_, pr, le, bd, r1, r2⟩, rc⟩ := r
  have rc : RSc h y F sz true Fc sc := rc
  rw [← Mh_of r1]
  refine c_Mo_point (F := Fc) (sz := sc) (fun z => rc.R z) rc.2.2.1 (fun z => by cases z) (fun _ _ h' pr' le' E kd => hq _ (RP.of (rc.kd kd.1 E) (fun b hb => kd.1 b (by omega)) r2)) (fun _ k hk ek w' hw ew L rg c' wg rd j hj ej => ?_)
  rcases hx with z | z | ⟨k', L', rg', c2, wg', hk', ek', rd', z⟩
  · exact absurd ek (z k hk)
  · exact absurd ew (z w' hw)
  · cases (nI_inj (by omega) (by omega)).1 (ek.symm.trans ek')
    rw [rd'] at rd
    cases rd
    exact absurd ej (z j hj)
theorem r_pointR {k w j : Nat} (r : RS h y F sz true Fc sc) (hk : k < f_N Fc sc) (hw : w < 4) {L : List Pt} {rg c' wg : Nat} (hrd : RD Fc sc 6 k 0 = some (L, rg, c', wg)) (hj : j < L.length) (hq : ∀ h', RP h h' y 0 F sz true Fc sc → Q (some (.int (POI L j w))) h' n) : q_Call G l M_Mo_point (d + 9) 0 0 [.ref y, .int (nI k), .int (nI j), .int (nI w)] h n Q := by
  have hN := r.N
  obtain ⟨⟨fa, wi, of_, pr, le, bd, r1, r2⟩, rc⟩ := r
  have rc : RSc h y F sz true Fc sc := rc
  rw [← Mh_of r1]
  have hl : L.length ≤ 512 := (RD_b (rc.2.2.2.2.2.2.2 rfl).2.2.1 sc 6 k 0 (by omega) _ _ _ _ hrd).2.1
  refine c_Mo_point (F := Fc) (sz := sc) (fun z => rc.R z) rc.2.2.1 (fun z => by cases z) (fun _ z => ?_) (fun _ k' hk' ek w' hw' ew L' rg' c2 wg' rd j' hj' ej h' pr' le' E kd => ?_)
  · rcases z with z | ⟨k', L', rg', c2, wg', hk', ek', rd', z⟩
    · exact absurd rfl (z k hk)
    · cases (nI_inj (by omega) (by omega)).1 ek'
      rw [hrd] at rd'
      cases rd'
      rcases z with z | z
      · exact absurd rfl (z j hj)
      · exact absurd rfl (z w hw)
  cases (nI_inj (by omega) (by omega)).1 ek
  cases (nI_inj (by omega) (by omega)).1 ew
  rw [hrd] at rd
  cases rd
  cases (nI_inj (by omega) (by omega)).1 ej
  exact hq _ (RP.of (rc.kd kd.1 E) (fun b hb => kd.1 b (by omega)) r2)
end E2
