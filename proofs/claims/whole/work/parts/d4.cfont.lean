/-! the class's questions to its font, over the loop's state -/
section D4
variable {G : q_G} {l : Launch} {d n x sz sc P : Nat} {F Fc : Nat → Nat} {h : q_H} {Q : q_P} {Tq : q_T}
theorem s_glyphR {k : Nat} (cs : CS h n x F sz true Fc sc P) (hk : k < 1114112) (hq : Q (some (.int (nI (cap (f_N Fc sc) (GLY Fc (t_cm Fc sc).1 (t_cm Fc sc).2 (mp_w Fc sc) (mp_p Fc sc) (mp_n Fc sc) k))))) h n) : q_Call G l M_FO_glyph (d + 6) 0 0 [.ref x, .int (nI k)] h n Q := by
  obtain ⟨cur, v3, sh, rc, mc, g, hO, hcx, hrx, hap, hF, hA, hK, hB, hJ, hS, fin⟩ := cs.font
  exact c_FO_glyphR hO hF hK hB hk hq
theorem s_fontR {k : Nat} (cs : CS h n x F sz true Fc sc P) (hk : k < 2) (hq : Q (some (.int (if k = 0 then nI (f_EM Fc sc) else bI (mp_w Fc sc)))) h n) : q_Call G l M_FO_font (d + 1) 0 0 [.ref x, .int (nI k)] h n Q := by
  obtain ⟨cur, v3, sh, rc, mc, g, hO, hcx, hrx, hap, hF, hA, hK, hB, hJ, hS, fin⟩ := cs.font
  exact c_FO_fontR hO hK hk hq
theorem s_measureR {k w : Nat} (cs : CS h n x F sz true Fc sc P) (hk : k < f_N Fc sc) (hw : w < 8) (hq : ∀ L rg c' wg, RD Fc sc 6 k 0 = some (L, rg, c', wg) → ∀ h', (∀ b, x + 48 ≤ b → b ≤ x + 73 → h' b = h b) → CS h' n x F sz true Fc sc P → Q (some (.int (MEA Fc sc L rg wg w))) h' n) : q_Call G l M_FO_measure (d + 18) 0 0 [.ref x, .int (nI k), .int (nI w)] h n Q := by
  obtain ⟨cur, v3, sh, rc, mc, g, hO, hcx, hrx, hap, hF, hA, hK, hB, hJ, hS, fin⟩ := cs.font
  have hN : f_N Fc sc ≤ 256 := hF.2.2.1.2.2.2.2.2.1
  refine c_FO_measureR hO hcx hrx hap hF hA hk hK hB hJ (hS k (by omega)) hw (fun L rg c' wg rd h' hs => ?_)
  obtain ⟨c1, c2⟩ := fin h' k (by omega) hs
  exact hq L rg c' wg rd h' c2 c1
theorem s_pointR {k w j : Nat} (cs : CS h n x F sz true Fc sc P) (hk : k < f_N Fc sc) (hw : w < 4) {L : List Pt} {rg c' wg : Nat} (hrd : RD Fc sc 6 k 0 = some (L, rg, c', wg)) (hj : j < L.length) (hq : ∀ h', (∀ b, x + 48 ≤ b → b ≤ x + 73 → h' b = h b) → CS h' n x F sz true Fc sc P → Q (some (.int (POI L j w))) h' n) : q_Call G l M_FO_point (d + 18) 0 0 [.ref x, .int (nI k), .int (nI j), .int (nI w)] h n Q := by
  obtain ⟨cur, v3, sh, rc, mc, g, hO, hcx, hrx, hap, hF, hA, hK, hB, hJ, hS, fin⟩ := cs.font
  have hN : f_N Fc sc ≤ 256 := hF.2.2.1.2.2.2.2.2.1
  refine c_FO_pointR hO hap hF hA hk hK hB hJ (hS k (by omega)) hw hrd hj (fun h' hs => ?_)
  obtain ⟨c1, c2⟩ := fin h' k (by omega) hs
  exact hq h' c2 c1
theorem s_glyphT {y : Int32} (hlt : l.stackTraces = false) (cs : CS h n x F sz true Fc sc P) (hy : ∀ k, k < 1114112 → y ≠ nI k) (kk : Tq 1 h (n + 1)) : q_Thr G l M_FO_glyph (d + 6) 1 6 [.ref x, .int y] h n Tq := by
  obtain ⟨cur, v3, sh, rc, mc, g, hO, hcx, hrx, hap, hF, hA, hK, hB, hJ, hS, fin⟩ := cs.font
  exact c_FO_glyphT hlt hO hy kk
theorem s_fontT {y : Int32} (hlt : l.stackTraces = false) (cs : CS h n x F sz true Fc sc P) (hy : ∀ k, k < 2 → y ≠ nI k) (kk : Tq 0 h (n + 1)) : q_Thr G l M_FO_font (d + 6) 1 6 [.ref x, .int y] h n Tq := by
  obtain ⟨cur, v3, sh, rc, mc, g, hO, hcx, hrx, hap, hF, hA, hK, hB, hJ, hS, fin⟩ := cs.font
  exact c_FO_fontT hlt hO hy kk
theorem s_measureT {y w : Int32} (hlt : l.stackTraces = false) (cs : CS h n x F sz true Fc sc P) (hy : (∀ k, k < f_N Fc sc → y ≠ nI k) ∨ ∀ k, k < 8 → w ≠ nI k) (kk : Tq 0 h (n + 1)) : q_Thr G l M_FO_measure (d + 6) 1 6 [.ref x, .int y, .int w] h n Tq := by
  obtain ⟨cur, v3, sh, rc, mc, g, hO, hcx, hrx, hap, hF, hA, hK, hB, hJ, hS, fin⟩ := cs.font
  have hN : f_N Fc sc ≤ 256 := hF.2.2.1.2.2.2.2.2.1
  exact c_FO_measureT hlt hO hK.1 (by omega) hy kk
theorem s_pointT {y ii w : Int32} (hlt : l.stackTraces = false) (cs : CS h n x F sz true Fc sc P) (hy : (∀ k, k < f_N Fc sc → y ≠ nI k) ∨ ∀ k, k < 4 → w ≠ nI k) (kk : Tq 0 h (n + 1)) : q_Thr G l M_FO_point (d + 6) 1 6 [.ref x, .int y, .int ii, .int w] h n Tq := by
  obtain ⟨cur, v3, sh, rc, mc, g, hO, hcx, hrx, hap, hF, hA, hK, hB, hJ, hS, fin⟩ := cs.font
  have hN : f_N Fc sc ≤ 256 := hF.2.2.1.2.2.2.2.2.1
  exact c_FO_pointT hlt hO hK.1 (by omega) hy kk
theorem s_pointP {k w : Nat} {ii : Int32} (hlt : l.stackTraces = false) (cs : CS h n x F sz true Fc sc P) (hk : k < f_N Fc sc) (hw : w < 4) {L : List Pt} {rg c' wg : Nat} (hrd : RD Fc sc 6 k 0 = some (L, rg, c', wg)) (hj : ∀ j, j < L.length → ii ≠ nI j) (kk : ∀ h', (∀ b, x + 48 ≤ b → b ≤ x + 73 → h' b = h b) → CS h' n x F sz true Fc sc P → Tq 0 h' (n + 1)) : q_Thr G l M_FO_point (d + 18) 1 6 [.ref x, .int (nI k), .int ii, .int (nI w)] h n Tq := by
  obtain ⟨cur, v3, sh, rc, mc, g, hO, hcx, hrx, hap, hF, hA, hK, hB, hJ, hS, fin⟩ := cs.font
  have hN : f_N Fc sc ≤ 256 := hF.2.2.1.2.2.2.2.2.1
  refine c_FO_pointP hlt hO hap hF hA hk hK hB hJ (hS k (by omega)) hw hrd hj (fun h' hs => ?_)
  obtain ⟨c1, c2⟩ := fin h' k (by omega) hs
  exact kk h' c2 c1
theorem s_N (cs : CS h n x F sz false Fc sc P) : ∃ v0 v1 v2 v3 v5, h x = some (.inr (7, [v0, v1, v2, v3, .int 0, v5])) := by
  obtain ⟨v2, v3, v5, ra, ma, g, hO, -⟩ := cs.file
  exact ⟨_, _, _, _, _, hO⟩
end D4
