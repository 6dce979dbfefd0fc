/-! the law's loop: its state -/
theorem kb_15 : (Int8.ofInt 15).toInt32 = 15 := by decide +kernel
theorem kc_6 : Int32.ofInt 6 = 6 := by decide +kernel
theorem q_oi_no_9_36 : q_oi 9 36 = false := rfl
theorem q_oi_no_9_39 : q_oi 9 39 = false := rfl
theorem e_init : q_has 73 (.initialized "FontOutlinesLaw") = true := by decide +kernel
theorem h_mono {G : q_G} {l : Launch} {y : MethodName} {cc : ByteArray} {lnn : Nat} {hs : List (Nat × Nat × Nat × Nat)} {d mc ms n : Nat} {As : List Value} {h : q_H} {Q Q' : q_P} (hq : q_Hlp G l y cc lnn hs d mc ms As h n Q) (hm : ∀ v h' n', Q v h' n' → Q' v h' n') : q_Hlp G l y cc lnn hs d mc ms As h n Q' := by
  intro p e a b c s m args below f1 f2 f3 f4
  obtain ⟨k, o, h1, h2, h3, ⟨v, h', n', e1, e2, e3, e4⟩, h5⟩ := hq p e a b c s m args below f1 f2 f3 f4
  exact ⟨k, o, h1, h2, h3, ⟨v, h', n', e1, e2, hm _ _ _ e3, e4⟩, h5⟩
/-- before the call j of the script: the class at x, the reference at x + 48, the answers' row at x + 73 -/
def LI (x : Nat) (h : q_H) (n k sl j : Nat) : Prop := ∃ F sz ld Fc sc P, CS h n x F sz ld Fc sc P ∧ RS h (x + 48) F sz ld Fc sc ∧ (∃ g : Nat → Int64, h (x + 73) = some (.inl (2, 1, .inr (.inl g)))) ∧ k ≤ 74 + j ∧ sl ≤ 50000 + P + 6 * j ∧ P ≤ 147456
/-- what stands at the end of a turn -/
def LC (G : q_G) (l : Launch) (b L : Nat) (xs : Nat → Int32) (y : MethodName) (Ts : List Cond) (d : Nat) (Q : q_P) (x j : Nat) : Prop := ∀ h n k sl v5 v6, LI x h n k sl (j + 1) → q_V G l (L_Ex G b L xs) y code 7 Ts M_Hb (d + 25) 601024 7293034 Q 615 [some (.ref b), some (.ref x), some (.ref (x + 48)), some (.ref (x + 73)), some (.int (nI (6 * j))), v5, v6] [] h n k sl
/-- what the reference's call has to come to, where the class answered kq -/
def LT (x n k sl j : Nat) (kq : Int32) : q_P := fun v h' n' => ∃ (rr : Int32) (g : Nat → Int64), v = some (.int rr) ∧ n' = n ∧ RA h' (x + 48) kq ∧ h' (x + 73) = some (.inl (2, 1, .inr (.inl g))) ∧ (kq = 0 → g 0 = rr.toInt64) ∧ LI x h' n k sl (j + 1)
theorem RA.o {h : q_H} {y : Nat} {fa : Int32} (r : RA h y fa) : ∃ fs, h y = some (.inr (8, fs)) := by
  obtain ⟨si, fo, wi, of_, bd, pr, le, r1⟩ := r
  exact ⟨_, r1⟩
theorem RS.o {h : q_H} {y : Nat} {F : Nat → Nat} {sz : Nat} {ld : Bool} {Fc : Nat → Nat} {sc : Nat} (r : RS h y F sz ld Fc sc) : ∃ fs, h y = some (.inr (8, fs)) := by
  obtain ⟨⟨fa, wi, of_, pr, le, bd, r1, r2⟩, rc⟩ := r
  exact ⟨_, r1⟩
theorem LI.fin {x n k sl j sz sc P : Nat} {F Fc : Nat → Nat} {ld : Bool} {h1 h2 : q_H} {fa : Int32} (cs : CS h1 n x F sz ld Fc sc P) (ho : ∃ g : Nat → Int64, h1 (x + 73) = some (.inl (2, 1, .inr (.inl g)))) (rp : RP h1 h2 (x + 48) fa F sz ld Fc sc) (hk : k ≤ 74 + j) (hsl : sl ≤ 50000 + P + 6 * j) (hP : P ≤ 147456) : LI x h2 n k sl j := by
  obtain ⟨g, ho⟩ := ho
  exact ⟨F, sz, ld, Fc, sc, P, cs.mv (Nat.le_refl _) (fun b _ hb => rp.1 b (by omega)), rp.2.2, ⟨g, (rp.1 _ (by omega)).trans ho⟩, hk, hsl, hP⟩
/-- the reference's answer rr, the class's answer lies in the row -/
theorem LT.of {x n k sl j sz sc P : Nat} {F Fc : Nat → Nat} {ld : Bool} {h1 h2 : q_H} {kq rr : Int32} {g : Nat → Int64} (cs : CS h1 n x F sz ld Fc sc P) (ho : h1 (x + 73) = some (.inl (2, 1, .inr (.inl g)))) (hg : kq = 0 → g 0 = rr.toInt64) (rp : RP h1 h2 (x + 48) kq F sz ld Fc sc) (hk : k ≤ 74 + (j + 1)) (hsl : sl ≤ 50000 + P + 6 * (j + 1)) (hP : P ≤ 147456) : LT x n k sl j kq (some (.int rr)) h2 n :=
  ⟨rr, g, rfl, rfl, rp.2.1, (rp.1 _ (by omega)).trans ho, hg, LI.fin cs ⟨g, ho⟩ rp hk hsl hP⟩
