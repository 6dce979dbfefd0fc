/-! What a glyph's outline is: RD; the same words serve the class and the reference -/
/-- a point: x, y, its flag, its contour -/
abbrev Pt : Type := Int × Int × Nat × Nat
def At (L : List Pt) (j : Nat) : Pt := L.getD j (0, 0, 0, 0)
theorem At_l {A B : List Pt} {j : Nat} (h : j < A.length) : At (A ++ B) j = At A j := by
  unfold At
  rw [List.getD_eq_getElem?_getD, List.getD_eq_getElem?_getD, List.getElem?_append_left h]
theorem At_r {A B : List Pt} {j : Nat} : At (A ++ B) (A.length + j) = At B j := by
  unfold At
  rw [List.getD_eq_getElem?_getD, List.getD_eq_getElem?_getD, List.getElem?_append_right (by omega), Nat.add_sub_cancel_left]
theorem At_m {A : List Pt} {f : Pt → Pt} {j : Nat} (h : j < A.length) : At (A.map f) j = f (At A j) := by
  unfold At
  rw [List.getD_eq_getElem?_getD, List.getD_eq_getElem?_getD, List.getElem?_map, List.getElem?_eq_getElem h]
  rfl
theorem At_g {f : Nat → Pt} {n j : Nat} (h : j < n) : At ((List.range n).map f) j = f j := by
  unfold At
  rw [List.getD_eq_getElem?_getD, List.getElem?_map, List.getElem?_range h]
  rfl
theorem At_mem {A : List Pt} {j : Nat} (h : j < A.length) : At A j ∈ A := by
  unfold At
  rw [List.getD_eq_getElem?_getD, List.getElem?_eq_getElem h]
  exact List.getElem_mem h
theorem At_all {A : List Pt} {P : Pt → Prop} : (∀ x ∈ A, P x) ↔ ∀ j, j < A.length → P (At A j) := by
  constructor
  · exact fun h j hj => h _ (At_mem hj)
  · intro h x hx
    obtain ⟨j, hj, e⟩ := List.mem_iff_getElem.mp hx
    have := h j hj
    unfold At at this
    rw [List.getD_eq_getElem?_getD, List.getElem?_eq_getElem hj] at this
    subst e
    exact this
noncomputable def cI {α : Type} (P : Prop) (a b : α) : α := @ite α P (Classical.propDecidable P) a b
theorem cI_p {α : Type} {P : Prop} {a b : α} (h : P) : cI P a b = a := by unfold cI; exact if_pos h
theorem cI_n {α : Type} {P : Prop} {a b : α} (h : ¬ P) : cI P a b = b := by unfold cI; exact if_neg h
/-- a simple glyph's points -/
def SIMP (F : Nat → Nat) (e p0 C : Nat) : List Pt := match FS F e (s_pf F p0 C) (CB F p0 C) with
  | some (_, _, px) => match AS F e (FL F e (s_pf F p0 C)) 1 4 px (CB F p0 C) with
    | some (_, py) => (List.range (CB F p0 C)).map fun j => (AX F e (FL F e (s_pf F p0 C)) 1 4 px j, AX F e (FL F e (s_pf F p0 C)) 2 5 py j, FL F e (s_pf F p0 C) j, RI F p0 C j)
    | none => []
  | none => []
/-- a part's numbers -/
def pP (F : Nat → Nat) (p : Nat) : Int := NV F (w2 F p) (PA1 p)
def pQ (F : Nat → Nat) (p : Nat) : Int := NV F (w2 F p) (PA2 F p)
def pA (F : Nat → Nat) (p : Nat) : Int := FA F (w2 F p) (PA3 F p)
def pB (F : Nat → Nat) (p : Nat) : Int := FB F (w2 F p) (PA3 F p)
def pC (F : Nat → Nat) (p : Nat) : Int := FC F (w2 F p) (PA3 F p)
def pD (F : Nat → Nat) (p : Nat) : Int := FD F (w2 F p) (PA3 F p)
def MVL (F : Nat → Nat) (p : Nat) (A B : List Pt) : Option (Int × Int) := MV (w2 F p) (pP F p) (pQ F p) (pA F p) (pB F p) (pC F p) (pD F p) (fun j => (At (A ++ B) j).1) (fun j => (At (A ++ B) j).2.1) 0 A.length (A.length + B.length)
/-- a point of a part, laid -/
def LPt (F : Nat → Nat) (p rg : Nat) (m : Int × Int) (P : Pt) : Pt := (TR (pA F p) P.1 (pC F p) P.2.1 + m.1, TR (pB F p) P.1 (pD F p) P.2.1 + m.2, P.2.2.1, rg + P.2.2.2)
/-- the points A of the parts before, those of the part behind them -/
noncomputable def JN (F : Nat → Nat) (p : Nat) (A : List Pt) (rg : Nat) (B : List Pt) : Option (List Pt) := match MVL F p A B with
  | none => none
  | some m => cI ((∀ P ∈ B, q_co (LPt F p rg m P).1 ∧ q_co (LPt F p rg m P).2.1) ∧ A.length + B.length ≤ 512) (some (A ++ B.map (LPt F p rg m))) none
/-- what reading a glyph gives: its points, how many contours, how many parts have been read, whose width -/
abbrev RDr : Type := List Pt × Nat × Nat × Nat
noncomputable def PR (F : Nat → Nat) (e : Nat) (rd : Nat → Nat → Option RDr) : Nat → List Pt → Nat → Nat → Nat → Nat → Option RDr
  | 0, _, _, _, _, _ => none
  | k + 1, A, rg, c, gv, p => if c < 64 ∧ PA4 F p ≤ e ∧ BC (w2 F p) ≤ 1 then (match rd (w2 F (p + 2)) (c + 1) with
    | none => none
    | some (B, rg', c', wg) => match JN F p A rg B with
      | none => none
      | some A' => if BT (w2 F p) 5 then PR F e rd k A' (rg + rg') c' (if BT (w2 F p) 9 then wg else gv) (PA4 F p) else some (A', rg + rg', c', if BT (w2 F p) 9 then wg else gv)) else none
def g_a (F : Nat → Nat) (sz g : Nat) : Nat := DP F (f_LP F sz = 1) (t_lo F sz).1 (t_lo F sz).2 g
def G_a (F : Nat → Nat) (sz g : Nat) : Nat := (t_gl F sz).1 + g_a F sz g
noncomputable def RD (F : Nat → Nat) (sz : Nat) : Nat → Nat → Nat → Option RDr
  | 0, _, _ => none
  | r + 1, g, c => if f_N F sz ≤ g then none else if g_a F sz g = g_a F sz (g + 1) then some ([], 0, c, g) else if G_a F sz (g + 1) < G_a F sz g + 10 then none else
    if w2 F (G_a F sz g) = 65535 then PR F (G_a F sz (g + 1)) (RD F sz r) 16 [] 0 c g (G_a F sz g + 10) else
    cI (w2 F (G_a F sz g) ≤ 32 ∧ SIM_ok F (G_a F sz (g + 1)) (G_a F sz g + 10) 0 (w2 F (G_a F sz g))) (some (SIMP F (G_a F sz (g + 1)) (G_a F sz g + 10) (w2 F (G_a F sz g)), w2 F (G_a F sz g), c, g)) none
theorem CB_succ (F : Nat → Nat) (p0 k : Nat) : CB F p0 (k + 1) = CE F p0 k + 1 := by
  unfold CB
  rw [if_neg (by omega), Nat.add_sub_cancel]
theorem CB_ge {F : Nat → Nat} {e p0 first : Nat} : ∀ C, (∀ k, k < C → C1_ok F e p0 first k) → C ≤ CB F p0 C
  | 0, _ => by omega
  | C + 1, h => by
    have := CB_ge C (fun k hk => h k (by omega))
    have h2 := (h C (by omega)).2.1
    rw [CB_succ]
    omega
theorem CB_mono {F : Nat → Nat} {e p0 first : Nat} : ∀ C, (∀ k, k < C → C1_ok F e p0 first k) → ∀ k, k < C → CE F p0 k < CB F p0 C
  | 0, _, k, hk => by omega
  | C + 1, h, k, hk => by
    have h2 := (h C (by omega)).2.1
    rw [CB_succ]
    rcases Nat.lt_or_ge k C with y | y
    · have := CB_mono C (fun k hk => h k (by omega)) k y
      omega
    · have : k = C := by omega
      subst this
      omega
theorem C1_first {F : Nat → Nat} {e p0 first C : Nat} (hf : first ≤ 512) : (∀ k, k < C → C1_ok F e p0 first k) ↔ (∀ k, k < C → C1_ok F e p0 0 k) ∧ first + CB F p0 C ≤ 512 := by
  constructor
  · exact fun h => ⟨fun k hk => ⟨(h k hk).1, (h k hk).2.1, (h k hk).2.2.1, by have := (h k hk).2.2.1; omega⟩, (CB_le h hf).1⟩
  · exact fun h k hk => ⟨(h.1 k hk).1, (h.1 k hk).2.1, (h.1 k hk).2.2.1, by have := CB_mono C h.1 k hk; have := h.2; omega⟩
theorem SIM_first {F : Nat → Nat} {e p0 first C : Nat} (hf : first ≤ 512) : SIM_ok F e p0 first C ↔ SIM_ok F e p0 0 C ∧ first + CB F p0 C ≤ 512 := by
  unfold SIM_ok CS_ok
  rw [C1_first hf]
  constructor
  · exact fun h => ⟨⟨⟨h.1.1.1, h.1.2⟩, h.2⟩, h.1.1.2⟩
  · exact fun h => ⟨⟨⟨h.1.1.1, h.2⟩, h.1.1.2⟩, h.1.2⟩
theorem AX_co (F : Nat → Nat) {e p0 : Nat} (fl : Nat → Nat) (sb eb : Nat) (hp : p0 ≤ e) (i : Nat) : q_co (AX F e fl sb eb p0 i) := by
  unfold AX
  cases hh : AS F e fl sb eb p0 (i + 1) with
  | none => exact ⟨by dsimp only; omega, by dsimp only; omega⟩
  | some x =>
    obtain ⟨a, b⟩ := x
    exact (AS_b hp (i + 1) a b hh).1
theorem SIMP_len {F : Nat → Nat} {e p0 C : Nat} (h : SIM_ok F e p0 0 C) : (SIMP F e p0 C).length = CB F p0 C := by
  obtain ⟨-, f, px, h1, v, py, h2, -⟩ := h
  unfold SIMP
  rw [h1]
  dsimp only
  rw [h2]
  dsimp only
  rw [List.length_map, List.length_range]
theorem JN_len {F : Nat → Nat} {p rg : Nat} {A B R : List Pt} (h : JN F p A rg B = some R) : R.length = A.length + B.length ∧ R.length ≤ 512 := by
  unfold JN at h
  split at h
  · cases h
  · unfold cI at h
    split at h
    · rename_i c
      cases h
      rw [List.length_append, List.length_map]
      exact ⟨rfl, c.2⟩
    · cases h
theorem PR_len {F : Nat → Nat} {e : Nat} {rd : Nat → Nat → Option RDr} : ∀ (k : Nat) (A : List Pt) (rg c gv p : Nat) (R : List Pt) (rg' c' gv' : Nat), PR F e rd k A rg c gv p = some (R, rg', c', gv') → A.length ≤ R.length
  | 0, _, _, _, _, _, _, _, _, _, h => by cases h
  | k + 1, A, rg, c, gv, p, R, rg', c', gv', h => by
    unfold PR at h
    split at h
    · split at h
      · cases h
      · split at h
        · cases h
        · rename_i hj
          have := JN_len hj
          split at h
          · have := PR_len k _ _ _ _ _ _ _ _ _ h
            omega
          · cases h
            omega
    · cases h
