/-! MY MACHINE: abstract cells, locals as a list, blocks of instructions; what an instruction asks, as a proposition -/
abbrev q_E : Type := (Nat × vp_A) ⊕ (Nat × List Value)
abbrev q_H : Type := Nat → Option q_E
/-- class numbers and slots; the classes of the kinds of arrays; where new cells begin -/
abbrev q_G : Type := va_G × (Nat → ClassId) × Nat
abbrev q_L : Type := List (Option Value)
abbrev q_P : Type := Option Value → q_H → Nat → Prop
/-- locals, stack, cells, the next address, cells and slots used -/
abbrev q_C : Type := q_L → List Value → q_H → Nat → Nat → Nat → Prop
abbrev q_B : Type := List (Nat × List (Instr × Nat × Nat) × Nat)
def q_kind : Nat → FieldType
  | 0 => .int
  | 1 => .byte
  | 2 => .long
  | 3 => .boolean
  | _ => .object "FontOutlines$Part"
def q_tys (G : q_G) : List (ClassId × FieldType) := [(G.2.1 0, .int), (G.2.1 1, .byte), (G.2.1 2, .long), (G.2.1 3, .boolean), (G.2.1 4, .object "FontOutlines$Part")]
def q_e (G : q_G) (e : q_E) : va_E := match e with
  | .inl a => .inl (G.2.1 a.1, a.2)
  | .inr o => .inr o
def q_set (h : q_H) (a : Nat) (e : q_E) : q_H := fun b => if b = a then some e else h b
def q_rel (G : q_G) (h : q_H) (n : Nat) (H : Heap) : Prop := H.size = n ∧ ∀ (a : Nat) (e : q_E), h a = some e → G.2.2 ≤ a ∧ va_at G.1 q_cl (a, q_e G e) H
theorem q_rel.lt {G : q_G} {h : q_H} {n : Nat} {H : Heap} (r : q_rel G h n H) {a : Nat} {e : q_E} (ha : h a = some e) : a < n := by
  have := (r.2 a e ha).2.lt
  rw [r.1] at this
  exact this
theorem q_rel.upd {G : q_G} {h : q_H} {n : Nat} {H H1 : Heap} (r : q_rel G h n H) {a : Nat} {e0 e1 : q_E} (ha : h a = some e0) (hat : va_at G.1 q_cl (a, q_e G e1) H1) (hz : H1.size = H.size) (ho : ∀ q : Nat, q ≠ a → H1[q]? = H[q]?) : q_rel G (q_set h a e1) n H1 := by
  refine ⟨hz.trans r.1, fun b e hb => ?_⟩
  unfold q_set at hb
  by_cases hba : b = a
  · rw [if_pos hba] at hb
    cases hb
    subst hba
    exact ⟨(r.2 b e0 ha).1, hat⟩
  · rw [if_neg hba] at hb
    exact ⟨(r.2 b e hb).1, (r.2 b e hb).2.kept (ho b hba)⟩
theorem q_rel.push {G : q_G} {h : q_H} {n : Nat} {H H1 : Heap} (r : q_rel G h n H) {e1 : q_E} (hb : G.2.2 ≤ n) (hat : va_at G.1 q_cl (n, q_e G e1) H1) (hz : H1.size = n + 1) (ho : ∀ q : Nat, q < n → H1[q]? = H[q]?) : q_rel G (q_set h n e1) (n + 1) H1 := by
  refine ⟨hz, fun b e he => ?_⟩
  unfold q_set at he
  by_cases hba : b = n
  · rw [if_pos hba] at he
    cases he
    subst hba
    exact ⟨hb, hat⟩
  · rw [if_neg hba] at he
    exact ⟨(r.2 b e he).1, (r.2 b e he).2.kept (ho b (r.lt he))⟩
-- locals
def q_get : q_L → Nat → Option Value
  | [], _ => none
  | o :: _, 0 => o
  | _ :: r, i + 1 => q_get r i
def q_n2 : Option Value → Option Value
  | some (.long _) => none
  | some (.double _) => none
  | o => o
def q_p1 : q_L → Nat → Value → q_L
  | [], _, _ => []
  | _ :: r, 0, v => some v :: r
  | o :: r, 1, v => q_n2 o :: q_p1 r 0 v
  | o :: r, i + 2, v => o :: q_p1 r (i + 1) v
def q_p2 : q_L → Nat → Value → q_L
  | [], _, _ => []
  | [_], 0, v => [some v]
  | _ :: _ :: r, 0, v => some v :: none :: r
  | o :: r, 1, v => q_n2 o :: q_p2 r 0 v
  | o :: r, i + 2, v => o :: q_p2 r (i + 1) v
def q_pr : Nat → q_L → List (Nat × Value)
  | _, [] => []
  | i, none :: r => q_pr (i + 1) r
  | i, some v :: r => (i, v) :: q_pr (i + 1) r
theorem q_pr_m : ∀ (lv : q_L) (i j : Nat) (v : Value), (j, v) ∈ q_pr i lv ↔ ∃ e, j = i + e ∧ q_get lv e = some v
  | [], i, j, v => by simp [q_pr, q_get]
  | none :: r, i, j, v => by
    rw [show q_pr i (none :: r) = q_pr (i + 1) r from rfl, q_pr_m r]
    constructor
    · rintro ⟨e, h1, h2⟩; exact ⟨e + 1, by omega, h2⟩
    · rintro ⟨e, h1, h2⟩
      cases e with
      | zero => cases h2
      | succ e => exact ⟨e, by omega, h2⟩
  | some w :: r, i, j, v => by
    rw [show q_pr i (some w :: r) = (i, w) :: q_pr (i + 1) r from rfl, List.mem_cons, q_pr_m r]
    constructor
    · rintro (h | ⟨e, h1, h2⟩)
      · cases h; exact ⟨0, rfl, rfl⟩
      · exact ⟨e + 1, by omega, h2⟩
    · rintro ⟨e, h1, h2⟩
      cases e with
      | zero => left; simp only [q_get] at h2; cases h2; simp at h1; rw [h1]
      | succ e => right; exact ⟨e, by omega, h2⟩
def q_lv (ls : Array Slot) (nL : Nat) (lv : q_L) : Prop := lv_has ls nL (q_pr 0 lv)
theorem q_lv.at {ls : Array Slot} {nL : Nat} {lv : q_L} (h : q_lv ls nL lv) {i : Nat} {v : Value} (hv : q_get lv i = some v) : ls[i]? = some (.val v) := h.2.2 (i, v) ((q_pr_m lv 0 i v).mpr ⟨i, by omega, hv⟩)
theorem q_n2_s {o : Option Value} {v : Value} (h : q_n2 o = some v) : o = some v ∧ ¬ v.category = 2 := by
  cases o with
  | none => cases h
  | some w => cases w <;> first | (cases h; done) | (cases h; exact ⟨rfl, by simp [Value.category]⟩)
theorem q_p1_g : ∀ (lv : q_L) (i : Nat) (v : Value) (j : Nat) (w : Value), q_get (q_p1 lv i v) j = some w → (j = i ∧ w = v) ∨ (j ≠ i ∧ q_get lv j = some w ∧ ¬ (j + 1 = i ∧ w.category = 2))
  | [], i, v, j, w, h => by simp [q_p1, q_get] at h
  | o :: r, 0, v, 0, w, h => by simp only [q_p1, q_get] at h; cases h; exact Or.inl ⟨rfl, rfl⟩
  | o :: r, 0, v, j + 1, w, h => by simp only [q_p1, q_get] at h; exact Or.inr ⟨by omega, h, by omega⟩
  | o :: r, 1, v, 0, w, h => by
    simp only [q_p1, q_get] at h
    have := q_n2_s h
    exact Or.inr ⟨by omega, this.1, fun q => this.2 q.2⟩
  | o :: r, 1, v, j + 1, w, h => by
    simp only [q_p1, q_get] at h
    rcases q_p1_g r 0 v j w h with ⟨h1, h2⟩ | ⟨h1, h2, h3⟩
    · exact Or.inl ⟨by omega, h2⟩
    · exact Or.inr ⟨by omega, h2, by omega⟩
  | o :: r, i + 2, v, 0, w, h => by simp only [q_p1, q_get] at h; exact Or.inr ⟨by omega, h, by omega⟩
  | o :: r, i + 2, v, j + 1, w, h => by
    simp only [q_p1, q_get] at h
    rcases q_p1_g r (i + 1) v j w h with ⟨h1, h2⟩ | ⟨h1, h2, h3⟩
    · exact Or.inl ⟨by omega, h2⟩
    · exact Or.inr ⟨by omega, h2, fun q => h3 ⟨by omega, q.2⟩⟩
theorem q_p2_g : ∀ (lv : q_L) (i : Nat) (v : Value) (j : Nat) (w : Value), q_get (q_p2 lv i v) j = some w → (j = i ∧ w = v) ∨ (j ≠ i ∧ j ≠ i + 1 ∧ q_get lv j = some w ∧ ¬ (j + 1 = i ∧ w.category = 2))
  | [], i, v, j, w, h => by simp [q_p2, q_get] at h
  | [o], 0, v, 0, w, h => by simp only [q_p2, q_get] at h; cases h; exact Or.inl ⟨rfl, rfl⟩
  | [o], 0, v, j + 1, w, h => by simp [q_p2, q_get] at h
  | o :: o2 :: r, 0, v, 0, w, h => by simp only [q_p2, q_get] at h; cases h; exact Or.inl ⟨rfl, rfl⟩
  | o :: o2 :: r, 0, v, 1, w, h => by simp [q_p2, q_get] at h
  | o :: o2 :: r, 0, v, j + 2, w, h => by simp only [q_p2, q_get] at h; exact Or.inr ⟨by omega, by omega, h, by omega⟩
  | o :: r, 1, v, 0, w, h => by
    rw [show q_p2 (o :: r) 1 v = q_n2 o :: q_p2 r 0 v by cases r <;> rfl] at h
    simp only [q_get] at h
    have := q_n2_s h
    exact Or.inr ⟨by omega, by omega, this.1, fun q => this.2 q.2⟩
  | o :: r, 1, v, j + 1, w, h => by
    rw [show q_p2 (o :: r) 1 v = q_n2 o :: q_p2 r 0 v by cases r <;> rfl] at h
    simp only [q_get] at h
    rcases q_p2_g r 0 v j w h with ⟨h1, h2⟩ | ⟨h1, h1', h2, h3⟩
    · exact Or.inl ⟨by omega, h2⟩
    · exact Or.inr ⟨by omega, by omega, h2, by omega⟩
  | o :: r, i + 2, v, 0, w, h => by
    rw [show q_p2 (o :: r) (i + 2) v = o :: q_p2 r (i + 1) v by cases r <;> rfl] at h
    simp only [q_get] at h
    exact Or.inr ⟨by omega, by omega, h, by omega⟩
  | o :: r, i + 2, v, j + 1, w, h => by
    rw [show q_p2 (o :: r) (i + 2) v = o :: q_p2 r (i + 1) v by cases r <;> rfl] at h
    simp only [q_get] at h
    rcases q_p2_g r (i + 1) v j w h with ⟨h1, h2⟩ | ⟨h1, h1', h2, h3⟩
    · exact Or.inl ⟨by omega, h2⟩
    · exact Or.inr ⟨by omega, by omega, h2, fun q => h3 ⟨by omega, q.2⟩⟩
theorem q_lv.st1 {ls : Array Slot} {nL i : Nat} {lv : q_L} {v : Value} (h : lv_has ls nL ((i, v) :: (q_pr 0 lv).filter (fun q => !(q.1 == i) && !(q.1 + 1 == i && q.2.category == 2)))) : q_lv ls nL (q_p1 lv i v) := by
  refine ⟨h.1, h.2.1, fun q hq => ?_⟩
  obtain ⟨e, h1, h2⟩ := (q_pr_m _ 0 q.1 q.2).mp hq
  rw [Nat.zero_add] at h1
  rcases q_p1_g lv i v e q.2 h2 with ⟨g1, g2⟩ | ⟨g1, g2, g3⟩
  · exact h.2.2 q (by rw [show q = (i, v) by rw [← g2, ← g1, ← h1]]; exact List.mem_cons_self)
  · refine h.2.2 q (List.mem_cons_of_mem _ (List.mem_filter.mpr ⟨(q_pr_m lv 0 q.1 q.2).mpr ⟨e, by omega, g2⟩, ?_⟩))
    rw [h1]
    simp only [Bool.and_eq_true, Bool.not_eq_true', beq_eq_false_iff_ne, ne_eq, Bool.and_eq_false_iff]
    refine ⟨g1, ?_⟩
    by_cases g4 : e + 1 = i
    · exact Or.inr (fun q => g3 ⟨g4, q⟩)
    · exact Or.inl g4
theorem q_lv.st2 {ls : Array Slot} {nL i : Nat} {lv : q_L} {v : Value} (h : lv_has ls nL ((i, v) :: (q_pr 0 lv).filter (fun q => !(q.1 == i) && (!(q.1 == i + 1) && !(q.1 + 1 == i && q.2.category == 2))))) : q_lv ls nL (q_p2 lv i v) := by
  refine ⟨h.1, h.2.1, fun q hq => ?_⟩
  obtain ⟨e, h1, h2⟩ := (q_pr_m _ 0 q.1 q.2).mp hq
  rw [Nat.zero_add] at h1
  rcases q_p2_g lv i v e q.2 h2 with ⟨g1, g2⟩ | ⟨g1, g1', g2, g3⟩
  · exact h.2.2 q (by rw [show q = (i, v) by rw [← g2, ← g1, ← h1]]; exact List.mem_cons_self)
  · refine h.2.2 q (List.mem_cons_of_mem _ (List.mem_filter.mpr ⟨(q_pr_m lv 0 q.1 q.2).mpr ⟨e, by omega, g2⟩, ?_⟩))
    rw [h1]
    simp only [Bool.and_eq_true, Bool.not_eq_true', beq_eq_false_iff_ne, ne_eq, Bool.and_eq_false_iff]
    refine ⟨g1, g1', ?_⟩
    by_cases g4 : e + 1 = i
    · exact Or.inr (fun q => g3 ⟨g4, q⟩)
    · exact Or.inl g4
def q_ar : List Value → q_L
  | [] => []
  | .long x :: r => some (.long x) :: none :: q_ar r
  | .double x :: r => some (.double x) :: none :: q_ar r
  | v :: r => some v :: q_ar r
def q_pad : Nat → q_L → q_L
  | 0, _ => []
  | n + 1, [] => none :: q_pad n []
  | n + 1, o :: r => o :: q_pad n r
theorem q_pad_g : ∀ (n : Nat) (lv : q_L) (j : Nat) (v : Value), q_get (q_pad n lv) j = some v → q_get lv j = some v
  | 0, lv, j, v, h => by simp [q_pad, q_get] at h
  | n + 1, [], 0, v, h => by simp [q_pad, q_get] at h
  | n + 1, [], j + 1, v, h => by
    simp only [q_pad, q_get] at h
    have := q_pad_g n [] j v h
    simp [q_get] at this
  | n + 1, o :: r, 0, v, h => by simpa [q_pad, q_get] using h
  | n + 1, o :: r, j + 1, v, h => by
    simp only [q_pad, q_get] at h ⊢
    exact q_pad_g n r j v h
theorem q_ar_a : ∀ (vs : List Value) (i j : Nat) (v : Value), q_get (q_ar vs) j = some v → (i + j, v) ∈ lv_args i vs
  | [], i, j, v, h => by simp [q_ar, q_get] at h
  | w :: r, i, j, v, h => by
    have two : ∀ x : Value, x.category = 2 → q_get (some x :: none :: q_ar r) j = some v → (i + j, v) ∈ lv_args i (x :: r) := by
      intro x hx hj
      rw [show lv_args i (x :: r) = (i, x) :: lv_args (i + 2) r by simp [lv_args, hx]]
      match j, hj with
      | 0, hj => simp only [q_get] at hj; cases hj; exact List.mem_cons_self
      | 1, hj => simp [q_get] at hj
      | j + 2, hj =>
        simp only [q_get] at hj
        have := q_ar_a r (i + 2) j v hj
        rw [show i + (j + 2) = i + 2 + j by omega]
        exact List.mem_cons_of_mem _ this
    have one : ∀ x : Value, ¬ x.category = 2 → q_get (some x :: q_ar r) j = some v → (i + j, v) ∈ lv_args i (x :: r) := by
      intro x hx hj
      rw [show lv_args i (x :: r) = (i, x) :: lv_args (i + 1) r by simp [lv_args, hx]]
      match j, hj with
      | 0, hj => simp only [q_get] at hj; cases hj; exact List.mem_cons_self
      | j + 1, hj =>
        simp only [q_get] at hj
        have := q_ar_a r (i + 1) j v hj
        rw [show i + (j + 1) = i + 1 + j by omega]
        exact List.mem_cons_of_mem _ this
    cases w <;> first | exact two _ rfl h | exact one _ (by simp [Value.category]) h
