/-! the reference: readPart, whole -/
theorem NW_nb (f : Nat) : NW f = NB (decide (BT f 0)) := by
  unfold NW NB
  by_cases c : BT f 0
  · rw [if_pos c, if_pos (decide_eq_true c)]
  · rw [if_neg c, if_neg (by rw [decide_eq_false c]; exact Bool.false_ne_true)]
theorem NR_nv {F : Nat → Nat} {w ln a f : Nat} (h : a + NB (decide (BT f 0)) ≤ ln) : NR F w ln a (decide (BT f 0)) (decide (BT f 1)) = NV F f (w + a) := by
  unfold NR NV
  by_cases c : BT f 0
  · rw [if_pos c, if_pos (decide_eq_true c)]
    rw [decide_eq_true c] at h
    rw [U16_in (show a + 2 ≤ ln from h)]
    by_cases c1 : BT f 1
    · rw [if_pos c1, if_pos (decide_eq_true c1)]
    · rw [if_neg c1, if_neg (by rw [decide_eq_false c1]; exact Bool.false_ne_true)]
  · rw [if_neg c, if_neg (by rw [decide_eq_false c]; exact Bool.false_ne_true)]
    rw [decide_eq_false c] at h
    rw [U8_in (show a < ln from h)]
    by_cases c1 : BT f 1
    · rw [if_pos c1, if_pos (decide_eq_true c1)]
    · rw [if_neg c1, if_neg (by rw [decide_eq_false c1]; exact Bool.false_ne_true)]
/-- the factors, where they stand whole -/
theorem rq_f {F : Nat → Nat} {w ln t f : Nat} (hc : BC f ≤ 1) (h : CN f = 0 ∨ t + 2 * CN f ≤ ln) : (if CN f = 0 then 16384 else S16 (U16 F w ln t)) = FA F f (w + t) ∧ rq_B F w ln t (CN f) = FB F f (w + t) ∧ rq_C F w ln t (CN f) = FC F f (w + t) ∧ rq_D F w ln t (CN f) (if CN f = 0 then 16384 else S16 (U16 F w ln t)) = FD F f (w + t) := by
  have hc : f / 8 % 2 + f / 64 % 2 + f / 128 % 2 ≤ 1 := hc
  have e : CN f = f / 8 % 2 + 2 * (f / 64 % 2) + 4 * (f / 128 % 2) := rfl
  have b3 : BT f 3 ↔ f / 8 % 2 = 1 := Iff.rfl
  have b6 : BT f 6 ↔ f / 64 % 2 = 1 := Iff.rfl
  have b7 : BT f 7 ↔ f / 128 % 2 = 1 := Iff.rfl
  by_cases c3 : f / 8 % 2 = 1
  · have ec : CN f = 1 := by omega
    rw [ec] at h ⊢
    unfold FA FB FC FD rq_B rq_C rq_D
    rw [if_pos (b3.mpr c3), if_pos (b3.mpr c3), if_pos (b3.mpr c3), if_pos (b3.mpr c3), if_neg (by omega), if_neg (by omega), if_neg (by omega), if_neg (by omega), if_pos rfl, U16_in (by omega)]
    exact ⟨rfl, rfl, rfl, rfl⟩
  · have n3 : ¬ BT f 3 := fun z => c3 (b3.mp z)
    by_cases c6 : f / 64 % 2 = 1
    · have ec : CN f = 2 := by omega
      rw [ec] at h ⊢
      unfold FA FB FC FD rq_B rq_C rq_D
      rw [if_neg n3, if_neg n3, if_neg n3, if_neg n3, if_pos (b6.mpr c6), if_pos (b6.mpr c6), if_pos (b6.mpr c6), if_pos (b6.mpr c6), if_neg (by omega), if_neg (by omega), if_neg (by omega), if_neg (by omega), if_neg (by omega), U16_in (by omega), U16_in (by omega)]
      exact ⟨rfl, rfl, rfl, rfl⟩
    · have n6 : ¬ BT f 6 := fun z => c6 (b6.mp z)
      by_cases c7 : f / 128 % 2 = 1
      · have ec : CN f = 4 := by omega
        rw [ec] at h ⊢
        unfold FA FB FC FD rq_B rq_C rq_D
        rw [if_neg n3, if_neg n3, if_neg n3, if_neg n3, if_neg n6, if_neg n6, if_neg n6, if_neg n6, if_pos (b7.mpr c7), if_pos (b7.mpr c7), if_pos (b7.mpr c7), if_pos (b7.mpr c7), if_neg (by omega), if_pos rfl, if_pos rfl, if_neg (by omega), if_neg (by omega), U16_in (by omega), U16_in (by omega), U16_in (by omega), U16_in (by omega)]
        exact ⟨rfl, rfl, rfl, rfl⟩
      · have n7 : ¬ BT f 7 := fun z => c7 (b7.mp z)
        have ec : CN f = 0 := by omega
        rw [ec]
        unfold FA FB FC FD rq_B rq_C rq_D
        rw [if_neg n3, if_neg n3, if_neg n3, if_neg n3, if_neg n6, if_neg n6, if_neg n6, if_neg n6, if_neg n7, if_neg n7, if_neg n7, if_neg n7, if_pos rfl, if_neg (by omega), if_neg (by omega), if_pos rfl]
        exact ⟨rfl, rfl, rfl, rfl⟩
