/-! what holds at the law's start -/
theorem x_stH {C f d : String} {s : State} {args args' : Array Value} {H : Heap} (hH : ∀ a : Nat, a < s.heap.size → H[a]? = s.heap[a]?) (h : (Cond.isRef (.static C f d)).before args s = true) : (Cond.isRef (.static C f d)).before args' (s.withHeap H) = true := by
  have hn : (s.withHeap H).fieldNamed? C f d true = s.fieldNamed? C f d true := rfl
  have hh : (s.withHeap H).heap = H := rfl
  simp only [Cond.before, Cond.holds, Cond.value, Term.eval, hn, hh] at h ⊢
  cases hf : s.fieldNamed? C f d true with
  | none => rw [hf] at h; cases h
  | some r =>
    obtain ⟨c, k, slot⟩ := r
    rw [hf] at h
    cases hk : k.statics with
    | none => simp [hk] at h
    | some a =>
      cases hc : s.heap[a]? with
      | none => simp [hk, hc] at h
      | some ce =>
        have e : H[a]? = some ce := (hH a (Array.getElem?_eq_some_iff.mp hc).1).trans hc
        simp [hk, hc] at h
        simp [hk, e]
        exact h
theorem x_lsH {C f d : String} {s : State} {args args' : Array Value} {H : Heap} (hH : ∀ a : Nat, a < s.heap.size → H[a]? = s.heap[a]?) (h : (Cond.laysStatic C f d).before args s = true) : (Cond.laysStatic C f d).before args' (s.withHeap H) = true := by
  have hn : (s.withHeap H).fieldFound? C f d = s.fieldFound? C f d := rfl
  have hh : (s.withHeap H).heap = H := rfl
  have hv : (s.withHeap H).vm = s.vm := rfl
  simp only [Cond.before, Cond.holds, Cond.value, hn, hh, hv] at h ⊢
  cases hc0 : s.vm.findClass C with
  | none => rw [hc0] at h; cases h
  | some c0 =>
    cases hf : s.fieldFound? C f d with
    | none => rw [hc0, hf] at h; cases h
    | some r =>
      obtain ⟨c, k, i, fl⟩ := r
      rw [hc0, hf] at h
      cases hk : k.statics with
      | none => simp [hk] at h
      | some a =>
        cases hc : s.heap[a]? with
        | none => simp [hk, hc] at h
        | some ce =>
          have e : H[a]? = some ce := (hH a (Array.getElem?_eq_some_iff.mp hc).1).trans hc
          simp only [hk, hc, Option.bind_some, Option.map_some] at h
          simp only [hk, e, Option.bind_some, Option.map_some]
          exact h
def x_ins : List Nat := [102, 150, 227, 122, 221, 250, 130, 94, 814]
theorem x_inst : ∀ (ci : Nat) (C : String) (T : u_T) (N : Nat), q_cl[ci]? = some (C, T, N) → Cond.instantiable C N ∈ q_tbl := by
  intro ci C T N h
  match ci, h with
  | 0, h => cases h; exact q_has_in (i := 102) (by decide +kernel)
  | 1, h => cases h; exact q_has_in (i := 150) (by decide +kernel)
  | 2, h => cases h; exact q_has_in (i := 227) (by decide +kernel)
  | 3, h => cases h; exact q_has_in (i := 122) (by decide +kernel)
  | 4, h => cases h; exact q_has_in (i := 221) (by decide +kernel)
  | 5, h => cases h; exact q_has_in (i := 250) (by decide +kernel)
  | 6, h => cases h; exact q_has_in (i := 130) (by decide +kernel)
  | 7, h => cases h; exact q_has_in (i := 94) (by decide +kernel)
  | 8, h => cases h; exact q_has_in (i := 814) (by decide +kernel)
  | ci + 9, h => cases h
theorem x_isN {w : Cond} (h : q_isN w = true) : w.onTables = true := by
  cases w <;> first | rfl | (cases h; done)
theorem q_start {s : State} {args : Array Value} (hts : ∀ w ∈ lw_tbl, w.before args s = true) : ∃ G : q_G, G.2.2 = s.heap.size ∧ q_Kx G s := by
  have tb : ∀ w ∈ q_tbl, w.before args s = true := fun w hw => hts w (List.mem_filter.mp hw).1
  have hC : ∀ ci : Nat, ∃ (cC : ClassId) (iS : Nat → Nat), ∀ q : vw_C, q_cl[ci]? = some q → u_Kn s q.1 q.2.1 q.2.2 cC iS := by
    intro ci
    cases hq : q_cl[ci]? with
    | none => exact ⟨0, fun _ => 0, fun q h => by cases h⟩
    | some r =>
      obtain ⟨C, T, N⟩ := r
      obtain ⟨cC, iS, h⟩ := u_known (n := N) tb (q_cok ci C T N hq).1 (tb _ (x_inst ci C T N hq))
      exact ⟨cC, iS, fun q h' => by cases h'; exact h⟩
  obtain ⟨c0, k0, m0, a0, b0, d0⟩ := Cond.arrayClass_spec (tb _ q_ac_int)
  obtain ⟨c1, k1, m1, a1, b1, d1⟩ := Cond.arrayClass_spec (tb _ q_ac_byte)
  obtain ⟨c2, k2, m2, a2, b2, d2⟩ := Cond.arrayClass_spec (tb _ q_ac_long)
  obtain ⟨c3, k3, m3, a3, b3, d3⟩ := Cond.arrayClass_spec (tb _ q_ac_boolean)
  obtain ⟨m4, c4, k4, f4, -, b4, d4, a4⟩ := Cond.arrayOver_spec (hts _ q_ao)
  refine ⟨((fun ci => (hC ci).choose, fun ci => (hC ci).choose_spec.choose), (fun t => match t with | 0 => c0 | 1 => c1 | 2 => c2 | 3 => c3 | _ => c4), s.heap.size), rfl, ⟨fun ci q hq => (hC ci).choose_spec.choose_spec q hq, fun k q hk => ?_⟩, ⟨fun w hw => va_Nw.of (x_isN (List.mem_filter.mp hw).2) (hts w (List.mem_filter.mp hw).1), va_AO.of (hts _ q_ao)⟩, Nat.le_refl _⟩
  match k, hk with
  | 0, hk => cases hk; exact ⟨fun n z => ⟨fun k h => (by cases h), k0, b0, m0, d0⟩, a0⟩
  | 1, hk => cases hk; exact ⟨fun n z => ⟨fun k h => (by cases h), k1, b1, m1, d1⟩, a1⟩
  | 2, hk => cases hk; exact ⟨fun n z => ⟨fun k h => (by cases h), k2, b2, m2, d2⟩, a2⟩
  | 3, hk => cases hk; exact ⟨fun n z => ⟨fun k h => (by cases h), k3, b3, m3, d3⟩, a3⟩
  | 4, hk => cases hk; exact ⟨fun n z => ⟨fun k h => (by cases h), k4, b4, m4, d4⟩, k4, m4, b4, d4, f4, a4⟩
  | k + 5, hk => cases hk
def x_si : List Nat := [653, 688, 706, 736, 766, 803, 804, 812, 728]
theorem x_sin : (List.zip x_si x_s).all (fun q => q_hasN q.1 (.stringRef "FontOutlines" q.2.1 q.2.2)) = true ∧ x_si.length = x_s.length := by decide +kernel
theorem q_hasN_l {i : Nat} {w : Cond} (h : q_hasN i w = true) : w ∈ lw_tbl := by
  unfold q_hasN at h
  cases hc : lw_tbl[i]? with
  | none => rw [hc] at h; cases h
  | some v =>
    rw [hc] at h
    have e : v = w := of_decide_eq_true h
    subst e
    exact List.mem_of_getElem? hc
theorem x_sl : ∀ q ∈ x_s, Cond.stringRef "FontOutlines" q.1 q.2 ∈ lw_tbl := by
  intro q hq
  obtain ⟨i, hi⟩ := List.getElem?_of_mem hq
  have hl : i < x_s.length := (List.getElem?_eq_some_iff.mp hi).1
  obtain ⟨k, hk⟩ : ∃ k, x_si[i]? = some k := ⟨_, List.getElem?_eq_getElem (by rw [x_sin.2]; exact hl)⟩
  have hz : (List.zip x_si x_s)[i]? = some (k, q) := by
    rw [List.getElem?_zip_eq_some]
    exact ⟨hk, hi⟩
  exact q_hasN_l (List.all_eq_true.mp x_sin.1 _ (List.mem_of_getElem? hz))
theorem x_wl : ∀ w ∈ x_w, w ∈ lw_tbl ∨ w = .isRef (.static "java/lang/Throwable" "UNASSIGNED_STACK" "[Ljava/lang/StackTraceElement;") ∨ w = .isRef (.static "java/lang/Throwable" "SUPPRESSED_SENTINEL" "Ljava/util/List;") := by
  intro w hw
  simp only [x_w, List.mem_cons, List.not_mem_nil, or_false] at hw
  rcases hw with rfl | rfl | rfl | rfl | rfl | rfl | rfl | rfl | rfl | rfl
  · exact Or.inl (List.mem_of_getElem? (i := 639) (by decide +kernel))
  · exact Or.inl (List.mem_of_getElem? (i := 641) (by decide +kernel))
  · exact Or.inr (Or.inl rfl)
  · exact Or.inr (Or.inr rfl)
  · exact Or.inl (List.mem_of_getElem? (i := 616) (by decide +kernel))
  · exact Or.inl (List.mem_of_getElem? (i := 618) (by decide +kernel))
  · exact Or.inl (List.mem_of_getElem? (i := 620) (by decide +kernel))
  · exact Or.inl (List.mem_of_getElem? (i := 614) (by decide +kernel))
  · exact Or.inl (List.mem_of_getElem? (i := 681) (by decide +kernel))
  · exact Or.inl (List.mem_of_getElem? (i := 721) (by decide +kernel))
theorem q_startS {G : q_G} {s : State} {args : Array Value} (hG : G.2.2 = s.heap.size) (hts : ∀ w ∈ lw_tbl, w.before args s = true) (hgv : (Jvm.Cond.and given_1 narrow_1).before args s = true) : q_St G s := by
  have hs := flat_of_before _ hgv
  have hw0 : ∀ w ∈ x_w, w.before args s = true := by
    intro w hw
    rcases x_wl w hw with h | rfl | rfl
    · exact hts w h
    · exact hs _ (by decide +kernel)
    · exact hs _ (by decide +kernel)
  refine ⟨fun w hw args' H hH => ?_, fun q hq => ?_, fun q hq => ?_⟩
  · rw [hG] at hH
    have h := hw0 w hw
    simp only [x_w, List.mem_cons, List.not_mem_nil, or_false] at hw
    rcases hw with rfl | rfl | rfl | rfl | rfl | rfl | rfl | rfl | rfl | rfl
    · exact x_lsH hH h
    · exact x_lsH hH h
    · exact x_stH hH h
    · exact x_stH hH h
    · exact va_tabs (A := args) (u := s) rfl rfl h
    · exact va_tabs (A := args) (u := s) rfl rfl h
    · exact va_tabs (A := args) (u := s) rfl rfl h
    · exact va_tabs (A := args) (u := s) rfl rfl h
    · exact va_tabs (A := args) (u := s) rfl rfl h
    · exact va_tabs (A := args) (u := s) rfl rfl h
  · have h := hts _ (x_sl q hq)
    obtain ⟨cF, kF, hcF, -⟩ := Cond.instantiable_spec (hts _ (List.mem_filter.mp (x_inst 7 _ _ _ rfl)).1)
    obtain ⟨-, -, -, a, -, -, -, -, -, hev⟩ := Cond.stringRef_spec hcF h
    exact ⟨a, h, hev⟩
  · simp only [x_nc, List.mem_cons, List.not_mem_nil, or_false] at hq
    rcases hq with rfl | rfl | rfl
    · exact x_nc_mv (State.WarmedH.refl s) (hs _ (by decide +kernel))
    · exact x_nc_mv (State.WarmedH.refl s) (hs _ (by decide +kernel))
    · exact x_nc_mv (State.WarmedH.refl s) (hs _ (by decide +kernel))
