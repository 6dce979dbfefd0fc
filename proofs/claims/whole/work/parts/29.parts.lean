/-! Outline.addsParts and addsGlyph: they call one another -/
theorem NV_b {F : Nat → Nat} (hF : ∀ j, F j < 256) (fl p : Nat) : (BT fl 1 → q_sm (NV F fl p)) ∧ (¬ BT fl 1 → 0 ≤ NV F fl p ∧ NV F fl p < 65536) := by
  have h1 := hF p
  have h2 := hF (p + 1)
  constructor
  · intro b
    unfold NV
    rw [if_pos b, if_pos b]
    split
    · exact S16_sm (by omega)
    · unfold q_sm S8; split <;> omega
  · intro b
    unfold NV
    rw [if_neg b, if_neg b]
    split <;> omega
theorem pF_sm {F : Nat → Nat} (hF : ∀ j, F j < 256) (p : Nat) : q_sm (pA F p) ∧ q_sm (pB F p) ∧ q_sm (pC F p) ∧ q_sm (pD F p) := by
  have h0 : q_sm 0 := ⟨by omega, by omega⟩
  have h1 : q_sm 16384 := ⟨by omega, by omega⟩
  have h2 : ∀ p, q_sm (S16 (w2 F p)) := fun p => S16_sm (w2_lt hF p)
  refine ⟨?_, ?_, ?_, ?_⟩
  · unfold pA FA; split
    · exact h2 _
    · split
      · exact h2 _
      · split
        · exact h2 _
        · exact h1
  · unfold pB FB; split
    · exact h0
    · split
      · exact h0
      · split
        · exact h2 _
        · exact h0
  · unfold pC FC; split
    · exact h0
    · split
      · exact h0
      · split
        · exact h2 _
        · exact h0
  · unfold pD FD; split
    · exact h2 _
    · split
      · exact h2 _
      · split
        · exact h2 _
        · exact h1
theorem MVL_sh (F : Nat → Nat) (p own : Nat) (A B : List Pt) (hpq : ¬ BT (w2 F p) 1 → 0 ≤ pP F p ∧ 0 ≤ pQ F p) : MV (w2 F p) (pP F p) (pQ F p) (pA F p) (pB F p) (pC F p) (pD F p) (fun j => (At (A ++ B) (j - own)).1) (fun j => (At (A ++ B) (j - own)).2.1) own (own + A.length) (own + A.length + B.length) = MVL F p A B := by
  unfold MVL MV
  by_cases b : BT (w2 F p) 1
  · rw [if_pos b, if_pos b]
  · rw [if_neg b, if_neg b]
    have := hpq b
    by_cases c : pP F p < ((A.length : Nat) : Int) ∧ pQ F p < ((B.length : Nat) : Int)
    · rw [if_pos (by omega), if_pos (by omega)]
      dsimp only
      rw [show own + (pP F p).toNat - own = 0 + (pP F p).toNat by omega, show own + A.length + (pQ F p).toNat - own = A.length + (pQ F p).toNat by omega]
    · rw [if_neg (by omega), if_neg (by omega)]
/-- points, contours, parts and the lender are within their bounds -/
def RDg (N : Nat) (L : List Pt) (rg c wg : Nat) : Prop := rg ≤ L.length ∧ L.length ≤ 512 ∧ c ≤ 64 ∧ (∀ P ∈ L, q_co P.1 ∧ q_co P.2.1 ∧ P.2.2.1 < 256) ∧ wg < N
theorem JN_b {F : Nat → Nat} {p rg : Nat} {A B R : List Pt} (hA : ∀ P ∈ A, q_co P.1 ∧ q_co P.2.1 ∧ P.2.2.1 < 256) (hB : ∀ P ∈ B, q_co P.1 ∧ q_co P.2.1 ∧ P.2.2.1 < 256) (h : JN F p A rg B = some R) : ∀ P ∈ R, q_co P.1 ∧ q_co P.2.1 ∧ P.2.2.1 < 256 := by
  unfold JN at h
  split at h
  · cases h
  · unfold cI at h
    split at h
    · rename_i c
      cases h
      intro P hP
      rcases List.mem_append.mp hP with y | y
      · exact hA P y
      · obtain ⟨q, z1, z2⟩ := List.mem_map.mp y
        subst z2
        exact ⟨(c.1 q z1).1, (c.1 q z1).2, (hB q z1).2.2⟩
    · cases h
theorem PR_b {F : Nat → Nat} {N e : Nat} {rd : Nat → Nat → Option RDr} (hrd : ∀ g c, c ≤ 64 → ∀ L rg c' wg, rd g c = some (L, rg, c', wg) → RDg N L rg c' wg) : ∀ (k : Nat) (A : List Pt) (rg c gv p : Nat), RDg N A rg c gv → ∀ (R : List Pt) (rg' c' gv' : Nat), PR F e rd k A rg c gv p = some (R, rg', c', gv') → RDg N R rg' c' gv'
  | 0, _, _, _, _, _, _, _, _, _, _, h => by cases h
  | k + 1, A, rg, c, gv, p, hA, R, rg', c', gv', h => by
    unfold PR at h
    split at h
    · rename_i hc
      split at h
      · cases h
      · rename_i B rg1 c1 wg1 hr
        have z := hrd _ _ (by omega) _ _ _ _ hr
        split at h
        · cases h
        · rename_i A1 hj
          have hl := JN_len hj
          have hb := JN_b hA.2.2.2.1 z.2.2.2.1 hj
          have y : RDg N A1 (rg + rg1) c1 (if BT (w2 F p) 9 then wg1 else gv) := ⟨by have := hA.1; have := z.1; omega, hl.2, z.2.2.1, hb, by split; exact z.2.2.2.2; exact hA.2.2.2.2⟩
          split at h
          · exact PR_b hrd k _ _ _ _ _ y _ _ _ _ h
          · cases h
            exact y
    · cases h
theorem SIMP_b {F : Nat → Nat} (hF : ∀ j, F j < 256) {e p0 C : Nat} (h : SIM_ok F e p0 0 C) : C ≤ (SIMP F e p0 C).length ∧ (SIMP F e p0 C).length ≤ 512 ∧ ∀ P ∈ SIMP F e p0 C, q_co P.1 ∧ q_co P.2.1 ∧ P.2.2.1 < 256 := by
  rw [SIMP_len h]
  obtain ⟨cs, f, px, h1, v, py, h2, -⟩ := h
  have hc := CB_le cs.1 (Nat.zero_le _)
  refine ⟨CB_ge C cs.1, by omega, ?_⟩
  have b1 := (FS_b hF cs.2.2 _ _ _ _ h1).2.2
  have b2 := (AS_b b1 _ _ _ h2).2
  unfold SIMP
  rw [h1]
  dsimp only
  rw [h2]
  dsimp only
  intro P hP
  obtain ⟨j, -, z2⟩ := List.mem_map.mp hP
  subst z2
  exact ⟨AX_co F _ _ _ b1 j, AX_co F _ _ _ b2 j, FL_lt hF cs.2.2 j⟩
theorem RD_b {F : Nat → Nat} (hF : ∀ j, F j < 256) (sz : Nat) : ∀ r g c, c ≤ 64 → ∀ L rg c' wg, RD F sz r g c = some (L, rg, c', wg) → RDg (f_N F sz) L rg c' wg
  | 0, _, _, _, _, _, _, _, h => by cases h
  | r + 1, g, c, hc, L, rg, c', wg, h => by
    unfold RD at h
    split at h
    · cases h
    · rename_i hg
      split at h
      · cases h
        exact ⟨Nat.le_refl _, Nat.zero_le _, hc, fun P hP => (by cases hP), by omega⟩
      · split at h
        · cases h
        · split at h
          · exact PR_b (RD_b hF sz r) 16 [] 0 c g _ ⟨Nat.le_refl _, Nat.zero_le _, hc, fun P hP => (by cases hP), by omega⟩ _ _ _ _ h
          · unfold cI at h
            split at h
            · rename_i hs
              cases h
              have := SIMP_b hF hs.2
              exact ⟨this.1, this.2.1, hc, this.2.2, by omega⟩
            · cases h
