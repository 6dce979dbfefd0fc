/-! the reference: readGlyph's loop -/
def KD (h h' : q_H) (y d : Nat) : Prop := (∀ b, (b < y + 6 ∨ y + 24 < b) → h' b = h b) ∧ (∀ k, 6 ≤ k → k ≤ 9 → ∀ j, j < 512 * d → ar h' (y + k) j = ar h (y + k) j) ∧ ∀ k, 11 ≤ k → k ≤ 24 → ∀ j, j < d → ar h' (y + k) j = ar h (y + k) j
theorem KD.rf (h : q_H) (y d : Nat) : KD h h y d := ⟨fun _ _ => rfl, fun _ _ _ _ _ => rfl, fun _ _ _ _ _ => rfl⟩
theorem KD.tr {h h' h2 : q_H} {y d : Nat} (a : KD h h' y d) (b : KD h' h2 y d) : KD h h2 y d := ⟨fun c hc => (b.1 c hc).trans (a.1 c hc), fun k h1 h2 j hj => (b.2.1 k h1 h2 j hj).trans (a.2.1 k h1 h2 j hj), fun k h1 h2 j hj => (b.2.2 k h1 h2 j hj).trans (a.2.2 k h1 h2 j hj)⟩
theorem KB.kd {h h' : q_H} {y d : Nat} (k : KB h h' y d) : KD h h' y d := ⟨k.1, k.2.1, fun a h1 h2 j hj => k.2.2 a h1 h2 j (by omega)⟩
theorem KD.dn {h h' : q_H} {y d : Nat} (k : KD h h' y (d + 1)) : KD h h' y d := ⟨k.1, fun a h1 h2 j hj => k.2.1 a h1 h2 j (by omega), fun a h1 h2 j hj => k.2.2 a h1 h2 j (by omega)⟩
theorem MoR.kd {h h' : q_H} {y d : Nat} {of_ : Int32} {F : Nat → Nat} {sz : Nat} (R : MoR h y of_ F sz) (K : KD h h' y d) : MoR h' y of_ F sz := by
  obtain ⟨hF, ⟨gp, gl, h4, h5, hg⟩, r⟩ := R
  refine ⟨?_, ⟨gp, gl, (K.1 (y + 4) (by omega)).trans h4, (K.1 (y + 5) (by omega)).trans h5, hg⟩, r⟩
  rcases hF with ⟨o, g, e1, e2⟩ | ⟨o, g, e1, e2⟩
  · exact Or.inl ⟨o, g, (K.1 (y + 1) (by omega)).trans e1, e2⟩
  · exact Or.inr ⟨o, g, (K.1 (y + 2) (by omega)).trans e1, e2⟩
/-- the last part that gives its width -/
def LF (F : Nat → Nat) : Nat → Nat → Option Nat → Option Nat
  | 0, _, acc => acc
  | k + 1, p, acc => if BT (w2 F p) 5 then LF F k (PA4 F p) (if BT (w2 F p) 9 then some (w2 F (p + 2)) else acc) else (if BT (w2 F p) 9 then some (w2 F (p + 2)) else acc)
def LG (F : Nat → Nat) (sz g : Nat) : Option Nat := if g_a F sz g = g_a F sz (g + 1) then none else if w2 F (G_a F sz g) = 65535 then LF F 16 (G_a F sz g + 10) none else none
def lz : Option Nat → Int32
  | none => -1
  | some ch => nI ch
theorem LF_some {F : Nat → Nat} : ∀ (k p ch : Nat), LF F k p (some ch) = none → False
  | 0, p, ch, h => by cases h
  | k + 1, p, ch, h => by
    unfold LF at h
    split at h
    · split at h
      · exact LF_some k _ _ h
      · exact LF_some k _ _ h
    · split at h <;> cases h
theorem PR_lf {F : Nat → Nat} {e : Nat} {rd : Nat → Nat → Option RDr} : ∀ (k : Nat) (A : List Pt) (rg c gv p : Nat) (acc : Option Nat) (L : List Pt) (rg' c' wg : Nat), PR F e rd k A rg c gv p = some (L, rg', c', wg) → (∀ ch, acc = some ch → ∃ c1 x, rd ch c1 = some x ∧ x.2.2.2 = gv) → (∀ ch, LF F k p acc = some ch → ∃ c1 x, rd ch c1 = some x ∧ x.2.2.2 = wg) ∧ (LF F k p acc = none → wg = gv)
  | 0, A, rg, c, gv, p, acc, L, rg', c', wg, h, _ => by cases h
  | k + 1, A, rg, c, gv, p, acc, L, rg', c', wg, h, ha => by
    unfold PR at h
    split at h
    · split at h
      · cases h
      · rename_i B rg1 c1 wg1 hrd
        split at h
        · cases h
        · rename_i A' hj
          have ha' : ∀ ch, (if BT (w2 F p) 9 then some (w2 F (p + 2)) else acc) = some ch → ∃ c2 x, rd ch c2 = some x ∧ x.2.2.2 = (if BT (w2 F p) 9 then wg1 else gv) := by
            intro ch hc
            by_cases c9 : BT (w2 F p) 9
            · rw [if_pos c9] at hc ⊢
              cases hc
              exact ⟨_, _, hrd, rfl⟩
            · rw [if_neg c9] at hc ⊢
              exact ha ch hc
          have hn : (if BT (w2 F p) 9 then some (w2 F (p + 2)) else acc) = none → (if BT (w2 F p) 9 then wg1 else gv) = gv := by
            intro hc
            by_cases c9 : BT (w2 F p) 9
            · rw [if_pos c9] at hc; cases hc
            · rw [if_neg c9]
          by_cases c5 : BT (w2 F p) 5
          · rw [if_pos c5] at h
            have := PR_lf k _ _ _ _ _ (if BT (w2 F p) 9 then some (w2 F (p + 2)) else acc) _ _ _ _ h ha'
            unfold LF
            rw [if_pos c5]
            refine ⟨this.1, fun z => ?_⟩
            have e1 := this.2 z
            have e2 : (if BT (w2 F p) 9 then some (w2 F (p + 2)) else acc) = none := by
              cases hh : (if BT (w2 F p) 9 then some (w2 F (p + 2)) else acc) with
              | none => rfl
              | some ch =>
                exfalso
                rw [hh] at z
                exact LF_some k (PA4 F p) ch z
            rw [e1, hn e2]
          · rw [if_neg c5] at h
            cases h
            unfold LF
            rw [if_neg c5]
            exact ⟨ha', hn⟩
    · cases h
