/-! the turns of the law's loop -/
theorem CS.o {h : q_H} {n x sz sc P : Nat} {F Fc : Nat → Nat} {ld : Bool} (cs : CS h n x F sz ld Fc sc P) : ∃ fs, h x = some (.inr (7, fs)) := by
  obtain ⟨cur, spa, sh, ra, rc, rs, ma, mc, ms, c0, c1, c2, c3⟩ := cs
  exact ⟨_, c0.1⟩
/-- the class's answer has been written into the row -/
theorem L_wr {x n sz sz' sc sc' P : Nat} {F F' Fc Fc' : Nat → Nat} {ld ld' : Bool} {h h1 : q_H} {rr : Int32} {g : Nat → Int64} (cs : CS h1 n x F' sz' ld' Fc' sc' P) (rs : RS h (x + 48) F sz ld Fc sc) (f1 : ∀ b, x + 48 ≤ b → b ≤ x + 73 → h1 b = h b) : CS (q_set h1 (x + 73) (.inl (2, 1, .inr (.inl (vp_updL g 0 rr.toInt64))))) n x F' sz' ld' Fc' sc' P ∧ RS (q_set h1 (x + 73) (.inl (2, 1, .inr (.inl (vp_updL g 0 rr.toInt64))))) (x + 48) F sz ld Fc sc :=
  ⟨cs.mv (Nat.le_refl _) (fun b _ hb => s_ne _ _ (by omega)), rs.mv (fun b b1 b2 => (s_ne _ _ (by omega)).trans (f1 b (by omega) (by omega)))⟩
theorem L_g0 {g : Nat → Int64} {v : Int64} : vp_updL g 0 v 0 = v := by simp [vp_updL]
section E5
variable {G : q_G} {l : Launch} {b L : Nat} {xs : Nat → Int32} {y : MethodName} {Ts : List Cond} {d x j n k sl : Nat} {Q : q_P} {v5 v6 : Option Value} {h : q_H}
set_option maxRecDepth 100000 in
set_option maxHeartbeats 4000000 in
theorem L_put (hlt : l.stackTraces = false) (hy : y.cls = "FontOutlinesLaw") (hL : L ≤ 3072) (hi : 6 * j + 5 < L) (K : LC G l b L xs y Ts d Q x j) (li : LI x h n k sl j) : q_V G l (L_Ex G b L xs) y code 7 Ts M_Hb (d + 25) 601024 7293034 Q 165 [some (.ref b), some (.ref x), some (.ref (x + 48)), some (.ref (x + 73)), some (.int (nI (6 * j))), v5, v6] [] h n k sl := by
  obtain ⟨F, sz, ld, Fc, sc, P, cs, rs, ⟨g, ho⟩, hk, hsl, hP⟩ := li
  obtain ⟨fs, cO⟩ := cs.o
  obtain ⟨fr, rO⟩ := rs.o
  by_cases h1 : ∃ k0, k0 < sz ∧ xs (6 * j + 1) = nI k0
  · obtain ⟨k0, hk0, e1⟩ := h1
    by_cases h2 : ∃ v, v < 256 ∧ xs (6 * j + 2) = nI v
    · obtain ⟨v, hv, e2⟩ := h2
      refine S_put hy hL hi (mc' := 0) (ms' := 0) (by omega) (by omega) (c_HputR cO ?_)
      rw [e1, e2]
      refine s_putR (d := d + 22) cs hk0 hv (fun h1 f1 cs1 => ⟨_, g, rfl, (f1 _ (by omega) (by omega)).trans ho, 0, rfl, ?_⟩)
      obtain ⟨cs2, rs2⟩ := L_wr (rr := nI (F k0)) (g := g) cs1 rs f1
      obtain ⟨fr2, rO2⟩ := rs2.o
      exact T_put rO2 K (r_putR (d := d + 23) rs2 hk0 hv (fun h2 rp => LT.of cs2 (s_set _ _ _) (fun _ => L_g0) rp (by omega) (by omega) hP)) (by omega) (by omega)
    · have h2' : ∀ v, v < 256 → xs (6 * j + 2) ≠ nI v := fun v hv e => h2 ⟨v, hv, e⟩
      refine S_put hy hL hi (mc' := 1) (ms' := 6) (by omega) (by omega) (c_HputT1 cO ?_)
      rw [e1]
      refine s_putT1 (d := d + 17) hlt cs hk0 h2' ⟨rfl, 2, rfl, ?_⟩
      exact T_put rO K (r_putT1 (d := d + 23) rs hk0 h2' (fun h2 rp => LT.of (cs.mv (by omega) (fun _ _ _ => rfl)) ho (fun z => absurd z (by decide)) rp (by omega) (by omega) hP)) (by omega) (by omega)
  · have h1' : ∀ k0, k0 < sz → xs (6 * j + 1) ≠ nI k0 := fun v hv e => h1 ⟨v, hv, e⟩
    refine S_put hy hL hi (mc' := 1) (ms' := 6) (by omega) (by omega) (c_HputT0 cO ?_)
    refine s_putT0 (d := d + 17) hlt cs h1' ⟨rfl, 1, rfl, ?_⟩
    exact T_put rO K (r_putT0 (d := d + 23) rs h1' (fun h2 rp => LT.of (cs.mv (by omega) (fun _ _ _ => rfl)) ho (fun z => absurd z (by decide)) rp (by omega) (by omega) hP)) (by omega) (by omega)
set_option maxRecDepth 100000 in
set_option maxHeartbeats 4000000 in
theorem L_cut (hlt : l.stackTraces = false) (hy : y.cls = "FontOutlinesLaw") (hL : L ≤ 3072) (hi : 6 * j + 5 < L) (K : LC G l b L xs y Ts d Q x j) (li : LI x h n k sl j) : q_V G l (L_Ex G b L xs) y code 7 Ts M_Hb (d + 25) 601024 7293034 Q 258 [some (.ref b), some (.ref x), some (.ref (x + 48)), some (.ref (x + 73)), some (.int (nI (6 * j))), v5, v6] [] h n k sl := by
  obtain ⟨F, sz, ld, Fc, sc, P, cs, rs, ⟨g, ho⟩, hk, hsl, hP⟩ := li
  obtain ⟨fs, cO⟩ := cs.o
  obtain ⟨fr, rO⟩ := rs.o
  by_cases h1 : xs (6 * j + 1) < 0
  · refine S_cut hy hL hi (mc' := 1) (ms' := 6) (by omega) (by omega) (c_HcutT1 cO ?_)
    refine c_FO_cutT (d := d + 17) hlt h1 ⟨rfl, 1, rfl, ?_⟩
    exact T_cut rO K (r_cutT (d := d + 23) rs h1 (fun h2 rp => LT.of (cs.mv (by omega) (fun _ _ _ => rfl)) ho (fun z => absurd z (by decide)) rp (by omega) (by omega) hP)) (by omega) (by omega)
  · obtain ⟨k0, hk0, e1⟩ := q_nn h1
    refine S_cut hy hL hi (mc' := 0) (ms' := 0) (by omega) (by omega) (c_HcutR cO ?_)
    rw [e1]
    refine s_cutR (d := d + 23) cs hk0 (fun h1 f1 cs1 => ⟨_, g, rfl, (f1 _ (by omega) (by omega)).trans ho, 0, rfl, ?_⟩)
    obtain ⟨cs2, rs2⟩ := L_wr (rr := nI (sz - k0)) (g := g) cs1 rs f1
    obtain ⟨fr2, rO2⟩ := rs2.o
    exact T_cut rO2 K (r_cutR (d := d + 23) rs2 hk0 (fun h2 rp => LT.of cs2 (s_set _ _ _) (fun _ => L_g0) rp (by omega) (by omega) hP)) (by omega) (by omega)
set_option maxRecDepth 100000 in
set_option maxHeartbeats 4000000 in
theorem L_glyph (hlt : l.stackTraces = false) (hy : y.cls = "FontOutlinesLaw") (hL : L ≤ 3072) (hi : 6 * j + 5 < L) (K : LC G l b L xs y Ts d Q x j) (li : LI x h n k sl j) : q_V G l (L_Ex G b L xs) y code 7 Ts M_Hb (d + 25) 601024 7293034 Q 355 [some (.ref b), some (.ref x), some (.ref (x + 48)), some (.ref (x + 73)), some (.int (nI (6 * j))), v5, v6] [] h n k sl := by
  obtain ⟨F, sz, ld, Fc, sc, P, cs, rs, ⟨g, ho⟩, hk, hsl, hP⟩ := li
  obtain ⟨fs, cO⟩ := cs.o
  obtain ⟨fr, rO⟩ := rs.o
  cases ld
  · obtain ⟨v0, v1, v2, v3, w5, cN⟩ := s_N cs
    refine S_glyph hy hL hi (mc' := 1) (ms' := 6) (by omega) (by omega) (c_HglyphT2 cO ?_)
    refine c_FO_glyphN (d := d + 16) hlt cN ⟨rfl, 1, rfl, ?_⟩
    exact T_glyph rO K (r_glyphN (d := d + 17) rs (fun h2 rp => LT.of (cs.mv (by omega) (fun _ _ _ => rfl)) ho (fun z => absurd z (by decide)) rp (by omega) (by omega) hP)) (by omega) (by omega)
  by_cases h1 : ∃ k0, k0 < 1114112 ∧ xs (6 * j + 1) = nI k0
  · obtain ⟨k0, hk0, e1⟩ := h1
    refine S_glyph hy hL hi (mc' := 0) (ms' := 0) (by omega) (by omega) (c_HglyphR cO ?_)
    rw [e1]
    refine s_glyphR (d := d + 17) cs hk0 ⟨_, g, rfl, ho, 0, rfl, ?_⟩
    obtain ⟨cs2, rs2⟩ := L_wr (rr := nI (cap (f_N Fc sc) (GLY Fc (t_cm Fc sc).1 (t_cm Fc sc).2 (mp_w Fc sc) (mp_p Fc sc) (mp_n Fc sc) k0))) (g := g) cs rs (fun _ _ _ => rfl)
    obtain ⟨fr2, rO2⟩ := rs2.o
    exact T_glyph rO2 K (r_glyphR (d := d + 17) rs2 hk0 (fun h2 rp => LT.of cs2 (s_set _ _ _) (fun _ => L_g0) rp (by omega) (by omega) hP)) (by omega) (by omega)
  · have h1' : ∀ k0, k0 < 1114112 → xs (6 * j + 1) ≠ nI k0 := fun v hv e => h1 ⟨v, hv, e⟩
    refine S_glyph hy hL hi (mc' := 1) (ms' := 6) (by omega) (by omega) (c_HglyphT1 cO ?_)
    refine s_glyphT (d := d + 17) hlt cs h1' ⟨rfl, 2, rfl, ?_⟩
    exact T_glyph rO K (r_glyphT (d := d + 17) rs h1' (fun h2 rp => LT.of (cs.mv (by omega) (fun _ _ _ => rfl)) ho (fun z => absurd z (by decide)) rp (by omega) (by omega) hP)) (by omega) (by omega)
set_option maxRecDepth 100000 in
set_option maxHeartbeats 4000000 in
theorem L_font (hlt : l.stackTraces = false) (hy : y.cls = "FontOutlinesLaw") (hL : L ≤ 3072) (hi : 6 * j + 5 < L) (K : LC G l b L xs y Ts d Q x j) (li : LI x h n k sl j) : q_V G l (L_Ex G b L xs) y code 7 Ts M_Hb (d + 25) 601024 7293034 Q 559 [some (.ref b), some (.ref x), some (.ref (x + 48)), some (.ref (x + 73)), some (.int (nI (6 * j))), v5, v6] [] h n k sl := by
  obtain ⟨F, sz, ld, Fc, sc, P, cs, rs, ⟨g, ho⟩, hk, hsl, hP⟩ := li
  obtain ⟨fs, cO⟩ := cs.o
  obtain ⟨fr, rO⟩ := rs.o
  cases ld
  · obtain ⟨v0, v1, v2, v3, w5, cN⟩ := s_N cs
    refine S_font hy hL hi (mc' := 1) (ms' := 6) (by omega) (by omega) (c_HfontT2 cO ?_)
    refine c_FO_fontN (d := d + 16) hlt cN ⟨rfl, 1, rfl, ?_⟩
    exact T_font rO K (r_fontN (d := d + 20) rs (fun h2 rp => LT.of (cs.mv (by omega) (fun _ _ _ => rfl)) ho (fun z => absurd z (by decide)) rp (by omega) (by omega) hP)) (by omega) (by omega)
  by_cases h1 : ∃ k0, k0 < 2 ∧ xs (6 * j + 1) = nI k0
  · obtain ⟨k0, hk0, e1⟩ := h1
    refine S_font hy hL hi (mc' := 0) (ms' := 0) (by omega) (by omega) (c_HfontR cO ?_)
    rw [e1]
    refine s_fontR (d := d + 22) cs hk0 ⟨_, g, rfl, ho, 0, rfl, ?_⟩
    obtain ⟨cs2, rs2⟩ := L_wr (rr := (if k0 = 0 then nI (f_EM Fc sc) else bI (mp_w Fc sc))) (g := g) cs rs (fun _ _ _ => rfl)
    obtain ⟨fr2, rO2⟩ := rs2.o
    exact T_font rO2 K (r_fontR (d := d + 20) rs2 hk0 (fun h2 rp => LT.of cs2 (s_set _ _ _) (fun _ => L_g0) rp (by omega) (by omega) hP)) (by omega) (by omega)
  · have h1' : ∀ k0, k0 < 2 → xs (6 * j + 1) ≠ nI k0 := fun v hv e => h1 ⟨v, hv, e⟩
    refine S_font hy hL hi (mc' := 1) (ms' := 6) (by omega) (by omega) (c_HfontT0 cO ?_)
    refine s_fontT (d := d + 17) hlt cs h1' ⟨rfl, 2, rfl, ?_⟩
    exact T_font rO K (r_fontT (d := d + 20) rs h1' (fun h2 rp => LT.of (cs.mv (by omega) (fun _ _ _ => rfl)) ho (fun z => absurd z (by decide)) rp (by omega) (by omega) hP)) (by omega) (by omega)
set_option maxRecDepth 100000 in
set_option maxHeartbeats 4000000 in
theorem L_measure (hlt : l.stackTraces = false) (hy : y.cls = "FontOutlinesLaw") (hL : L ≤ 3072) (hi : 6 * j + 5 < L) (K : LC G l b L xs y Ts d Q x j) (li : LI x h n k sl j) : q_V G l (L_Ex G b L xs) y code 7 Ts M_Hb (d + 25) 601024 7293034 Q 411 [some (.ref b), some (.ref x), some (.ref (x + 48)), some (.ref (x + 73)), some (.int (nI (6 * j))), v5, v6] [] h n k sl := by
  obtain ⟨F, sz, ld, Fc, sc, P, cs, rs, ⟨g, ho⟩, hk, hsl, hP⟩ := li
  obtain ⟨fs, cO⟩ := cs.o
  obtain ⟨fr, rO⟩ := rs.o
  cases ld
  · obtain ⟨v0, v1, v2, v3, w5, cN⟩ := s_N cs
    refine S_measure hy hL hi (mc' := 1) (ms' := 6) (by omega) (by omega) (c_HmeasureT2 cO ?_)
    refine c_FO_measureN (d := d + 16) hlt cN ⟨rfl, 1, rfl, ?_⟩
    exact T_measure rO K (r_measureN (d := d + 15) rs (fun h2 rp => LT.of (cs.mv (by omega) (fun _ _ _ => rfl)) ho (fun z => absurd z (by decide)) rp (by omega) (by omega) hP)) (by omega) (by omega)
  have bad : ((∀ k, k < f_N Fc sc → xs (6 * j + 1) ≠ nI k) ∨ ∀ k, k < 8 → xs (6 * j + 2) ≠ nI k) → q_V G l (L_Ex G b L xs) y code 7 Ts M_Hb (d + 25) 601024 7293034 Q 411 [some (.ref b), some (.ref x), some (.ref (x + 48)), some (.ref (x + 73)), some (.int (nI (6 * j))), v5, v6] [] h n k sl := by
    intro hb
    refine S_measure hy hL hi (mc' := 1) (ms' := 6) (by omega) (by omega) (c_HmeasureT0 cO ?_)
    refine s_measureT (d := d + 17) hlt cs hb ⟨rfl, 2, rfl, ?_⟩
    exact T_measure rO K (r_measureT (d := d + 15) rs hb (fun h2 rp => LT.of (cs.mv (by omega) (fun _ _ _ => rfl)) ho (fun z => absurd z (by decide)) rp (by omega) (by omega) hP)) (by omega) (by omega)
  by_cases h1 : ∃ k0, k0 < f_N Fc sc ∧ xs (6 * j + 1) = nI k0
  · obtain ⟨k0, hk0, e1⟩ := h1
    by_cases h2 : ∃ w, w < 8 ∧ xs (6 * j + 2) = nI w
    · obtain ⟨w, hw, e2⟩ := h2
      refine S_measure hy hL hi (mc' := 0) (ms' := 0) (by omega) (by omega) (c_HmeasureR cO ?_)
      rw [e1, e2]
      refine s_measureR (d := d + 5) cs hk0 hw (fun Lp rg c' wg rd h1 f1 cs1 => ⟨_, g, rfl, (f1 _ (by omega) (by omega)).trans ho, 0, rfl, ?_⟩)
      obtain ⟨cs2, rs2⟩ := L_wr (rr := MEA Fc sc Lp rg wg w) (g := g) cs1 rs f1
      obtain ⟨fr2, rO2⟩ := rs2.o
      exact T_measure rO2 K (r_measureR (d := d + 15) rs2 hk0 hw rd (fun h2 rp => LT.of cs2 (s_set _ _ _) (fun _ => L_g0) rp (by omega) (by omega) hP)) (by omega) (by omega)
    · exact bad (Or.inr fun w hw e => h2 ⟨w, hw, e⟩)
  · exact bad (Or.inl fun w hw e => h1 ⟨w, hw, e⟩)
set_option maxRecDepth 100000 in
set_option maxHeartbeats 4000000 in
theorem L_point (hlt : l.stackTraces = false) (hy : y.cls = "FontOutlinesLaw") (hL : L ≤ 3072) (hi : 6 * j + 5 < L) (K : LC G l b L xs y Ts d Q x j) (li : LI x h n k sl j) : q_V G l (L_Ex G b L xs) y code 7 Ts M_Hb (d + 25) 601024 7293034 Q 479 [some (.ref b), some (.ref x), some (.ref (x + 48)), some (.ref (x + 73)), some (.int (nI (6 * j))), v5, v6] [] h n k sl := by
  obtain ⟨F, sz, ld, Fc, sc, P, cs, rs, ⟨g, ho⟩, hk, hsl, hP⟩ := li
  obtain ⟨fs, cO⟩ := cs.o
  obtain ⟨fr, rO⟩ := rs.o
  cases ld
  · obtain ⟨v0, v1, v2, v3, w5, cN⟩ := s_N cs
    refine S_point hy hL hi (mc' := 1) (ms' := 6) (by omega) (by omega) (c_HpointT2 cO ?_)
    refine c_FO_pointN (d := d + 16) hlt cN ⟨rfl, 1, rfl, ?_⟩
    exact T_point rO K (r_pointN (d := d + 15) rs (fun h2 rp => LT.of (cs.mv (by omega) (fun _ _ _ => rfl)) ho (fun z => absurd z (by decide)) rp (by omega) (by omega) hP)) (by omega) (by omega)
  have bad : ((∀ k, k < f_N Fc sc → xs (6 * j + 1) ≠ nI k) ∨ ∀ k, k < 4 → xs (6 * j + 3) ≠ nI k) → q_V G l (L_Ex G b L xs) y code 7 Ts M_Hb (d + 25) 601024 7293034 Q 479 [some (.ref b), some (.ref x), some (.ref (x + 48)), some (.ref (x + 73)), some (.int (nI (6 * j))), v5, v6] [] h n k sl := by
    intro hb
    refine S_point hy hL hi (mc' := 1) (ms' := 6) (by omega) (by omega) (c_HpointT0 cO ?_)
    refine s_pointT (d := d + 17) hlt cs hb ⟨rfl, 2, rfl, ?_⟩
    exact T_point rO K (r_pointT (d := d + 15) rs (hb.imp_right Or.inl) (fun h2 rp => LT.of (cs.mv (by omega) (fun _ _ _ => rfl)) ho (fun z => absurd z (by decide)) rp (by omega) (by omega) hP)) (by omega) (by omega)
  by_cases h1 : ∃ k0, k0 < f_N Fc sc ∧ xs (6 * j + 1) = nI k0
  · obtain ⟨k0, hk0, e1⟩ := h1
    by_cases h2 : ∃ w, w < 4 ∧ xs (6 * j + 3) = nI w
    · obtain ⟨w, hw, e2⟩ := h2
      obtain ⟨⟨Lp, rg, c', wg⟩, rd⟩ := Option.ne_none_iff_exists'.mp ((rs.2.2.2.2.2.2.2.2 rfl).2.2.2.2 k0 hk0)
      by_cases h3 : ∃ i, i < Lp.length ∧ xs (6 * j + 2) = nI i
      · obtain ⟨i, hi3, e3⟩ := h3
        refine S_point hy hL hi (mc' := 0) (ms' := 0) (by omega) (by omega) (c_HpointR cO ?_)
        rw [e1, e2, e3]
        refine s_pointR (d := d + 5) cs hk0 hw rd hi3 (fun h1 f1 cs1 => ⟨_, g, rfl, (f1 _ (by omega) (by omega)).trans ho, 0, rfl, ?_⟩)
        obtain ⟨cs2, rs2⟩ := L_wr (rr := POI Lp i w) (g := g) cs1 rs f1
        obtain ⟨fr2, rO2⟩ := rs2.o
        exact T_point rO2 K (r_pointR (d := d + 15) rs2 hk0 hw rd hi3 (fun h2 rp => LT.of cs2 (s_set _ _ _) (fun _ => L_g0) rp (by omega) (by omega) hP)) (by omega) (by omega)
      · have h3' : ∀ i, i < Lp.length → xs (6 * j + 2) ≠ nI i := fun v hv e => h3 ⟨v, hv, e⟩
        refine S_point hy hL hi (mc' := 1) (ms' := 6) (by omega) (by omega) (c_HpointT0 cO ?_)
        rw [e1, e2]
        refine s_pointP (d := d + 5) hlt cs hk0 hw rd h3' (fun h1 f1 cs1 => ⟨rfl, 2, rfl, ?_⟩)
        have rs1 := rs.mv (h' := h1) (fun b b1 b2 => f1 b (by omega) (by omega))
        obtain ⟨fr1, rO1⟩ := rs1.o
        exact T_point rO1 K (r_pointT (d := d + 15) rs1 (Or.inr (Or.inr ⟨k0, Lp, rg, c', wg, hk0, rfl, rd, h3'⟩)) (fun h2 rp => LT.of (cs1.mv (by omega) (fun _ _ _ => rfl)) ((f1 _ (by omega) (by omega)).trans ho) (fun z => absurd z (by decide)) rp (by omega) (by omega) hP)) (by omega) (by omega)
    · exact bad (Or.inr fun w hw e => h2 ⟨w, hw, e⟩)
  · exact bad (Or.inl fun w hw e => h1 ⟨w, hw, e⟩)
end E5
