/-! eliminations; what the link tables say; one row each for what changes cells -/
theorem q_i_s {st : List Value} {f : Int32 → List Value → Prop} (h : q_i st f) : ∃ x r, st = .int x :: r ∧ f x r := by
  unfold q_i at h; split at h
  · exact ⟨_, _, rfl, h⟩
  · exact h.elim
theorem q_j_s {st : List Value} {f : Int64 → List Value → Prop} (h : q_j st f) : ∃ x r, st = .long x :: r ∧ f x r := by
  unfold q_j at h; split at h
  · exact ⟨_, _, rfl, h⟩
  · exact h.elim
theorem q_a_s {st : List Value} {f : Nat → List Value → Prop} (h : q_a st f) : ∃ x r, st = .ref x :: r ∧ f x r := by
  unfold q_a at h; split at h
  · exact ⟨_, _, rfl, h⟩
  · exact h.elim
theorem q_v_s {st : List Value} {f : Value → List Value → Prop} (h : q_v st f) : ∃ x r, st = x :: r ∧ f x r := by
  unfold q_v at h; split at h
  · exact ⟨_, _, rfl, h⟩
  · exact h.elim
theorem q_li_s {lv : q_L} {i : Nat} {f : Int32 → Prop} (h : q_li lv i f) : ∃ x, q_get lv i = some (.int x) ∧ f x := by
  unfold q_li at h; split at h
  · exact ⟨_, by assumption, h⟩
  · exact h.elim
theorem q_lj_s {lv : q_L} {i : Nat} {f : Int64 → Prop} (h : q_lj lv i f) : ∃ x, q_get lv i = some (.long x) ∧ f x := by
  unfold q_lj at h; split at h
  · exact ⟨_, by assumption, h⟩
  · exact h.elim
theorem q_la_s {lv : q_L} {i : Nat} {f : Nat → Prop} (h : q_la lv i f) : ∃ x, q_get lv i = some (.ref x) ∧ f x := by
  unfold q_la at h; split at h
  · exact ⟨_, by assumption, h⟩
  · exact h.elim
theorem q_op_s {α : Type} {o : Option α} {f : α → Prop} (h : q_op o f) : ∃ x, o = some x ∧ f x := by
  unfold q_op at h; split at h
  · exact ⟨_, rfl, h⟩
  · exact h.elim
theorem q_ob_s {h : q_H} {a ci : Nat} {f : List Value → Prop} (hh : q_ob h a ci f) : ∃ fs, h a = some (.inr (ci, fs)) ∧ f fs := by
  unfold q_ob at hh; split at hh
  · obtain ⟨rfl, h2⟩ := hh; exact ⟨_, by assumption, h2⟩
  · exact hh.elim
theorem q_nth_s : ∀ {fs : List Value} {k : Nat} {f : Value → Prop}, q_nth fs k f → ∃ v, fs[k]? = some v ∧ f v
  | [], _, _, h => h.elim
  | v :: _, 0, _, h => ⟨v, rfl, h⟩
  | _ :: r, k + 1, f, h => by
    obtain ⟨v, h1, h2⟩ := q_nth_s (fs := r) (k := k) (f := f) h
    exact ⟨v, by simpa using h1, h2⟩
theorem q_ry_s {h : q_H} {a : Nat} {f : Nat → vp_A → Prop} (hh : q_ry h a f) : ∃ t x, h a = some (.inl (t, x)) ∧ f t x := by
  unfold q_ry at hh; split at hh
  · exact ⟨_, _, by assumption, hh⟩
  · exact hh.elim
theorem q_ri_s {h : q_H} {a kd : Nat} {f : Nat → (Nat → Int32) → Prop} (hh : q_ri h a kd f) : ∃ m g, h a = some (.inl (kd, m, .inl g)) ∧ f m g := by
  unfold q_ri at hh; split at hh
  · obtain ⟨rfl, h2⟩ := hh; exact ⟨_, _, by assumption, h2⟩
  · exact hh.elim
theorem q_rb_s {h : q_H} {a : Nat} {f : Nat → Nat → (Nat → Int32) → Prop} (hh : q_rb h a f) : ∃ t m g, h a = some (.inl (t, m, .inl g)) ∧ (t = 1 ∨ t = 3) ∧ f t m g := by
  unfold q_rb at hh; split at hh
  · exact ⟨_, _, _, by assumption, Or.inl rfl, hh⟩
  · exact ⟨_, _, _, by assumption, Or.inr rfl, hh⟩
  · exact hh.elim
theorem q_rl_s {h : q_H} {a : Nat} {f : Nat → (Nat → Int64) → Prop} (hh : q_rl h a f) : ∃ m g, h a = some (.inl (2, m, .inr (.inl g))) ∧ f m g := by
  unfold q_rl at hh; split at hh
  · exact ⟨_, _, by assumption, hh⟩
  · exact hh.elim
theorem q_rq_s {h : q_H} {a : Nat} {f : Nat → (Nat → Option Nat) → Prop} (hh : q_rq h a f) : ∃ m g, h a = some (.inl (4, m, .inr (.inr (.inr (.inr g))))) ∧ f m g := by
  unfold q_rq at hh; split at hh
  · exact ⟨_, _, by assumption, hh⟩
  · exact hh.elim
theorem q_dn_s {d : Nat} {f : Nat → Prop} (h : q_dn d f) : ∃ d', d = d' + 1 ∧ f d' := by
  unfold q_dn at h; split at h
  · exact h.elim
  · exact ⟨_, rfl, h⟩
theorem q_ags_s : ∀ {n : Nat} {as st : List Value} {f : List Value → List Value → Prop}, q_ags n as st f → ∃ bs r, bs.length = n ∧ st = bs.reverse ++ r ∧ f (bs ++ as) r
  | 0, as, st, f, h => ⟨[], st, rfl, rfl, h⟩
  | n + 1, as, v :: r, f, h => by
    obtain ⟨bs, r', h1, h2, h3⟩ := q_ags_s (n := n) (as := v :: as) (st := r) (f := f) h
    exact ⟨bs ++ [v], r', by simp [h1], by simp [h2], by simpa using h3⟩
  | n + 1, as, [], f, h => h.elim
theorem q_cat_e : ∀ st : List Value, (st.map fun v => v.category).sum = q_cat st
  | [] => rfl
  | v :: r => by
    have ih := q_cat_e r
    rw [List.map_cons, List.sum_cons, ih]
    cases v <;> rfl
-- links
theorem q_find {α : Type} {L : List (Nat × Nat × α)} {w j : Nat} {x : Nat × Nat × α} (h : L.find? (fun x => x.1 == w && x.2.1 == j) = some x) : x ∈ L ∧ x.1 = w ∧ x.2.1 = j := by
  have h1 := List.find?_some h
  have h2 := List.mem_of_find?_eq_some h
  simp only [Bool.and_eq_true, beq_iff_eq] at h1
  exact ⟨h2, h1.1, h1.2⟩
theorem q_fl_ok {w j ci k : Nat} {b : Bool} {o : String} (ho : q_ow[w]? = some o) (h : q_fl w j = some (ci, k, b)) : ∃ C T N, q_cl[ci]? = some (C, T, N) ∧ k < N ∧ (b = false → Cond.fieldLink o j C (T k).2.1 (T k).2.2.1 ∈ q_tbl) ∧ (b = true → Cond.fieldLinkNest o j C (T k).2.1 (T k).2.2.1 "FontOutlines" ∈ q_nst) := by
  unfold q_fl at h
  cases hf : q_flL.find? (fun x => x.1 == w && x.2.1 == j) with
  | none => rw [hf] at h; cases h
  | some x =>
    rw [hf] at h
    obtain ⟨hm, e1, e2⟩ := q_find hf
    have hk := List.all_eq_true.mp q_flL_ok x hm
    obtain ⟨x1, x2, x3, x4, x5, x6⟩ := x
    simp only [Option.map_some, Option.some.injEq, Prod.mk.injEq] at h
    obtain ⟨h1, h2, h3⟩ := h
    dsimp only at e1 e2
    subst e1; subst e2; subst h1; subst h2; subst h3
    unfold q_okF at hk
    dsimp only at hk
    rw [ho] at hk
    cases hc : q_cl[x3]? with
    | none => rw [hc] at hk; cases hk
    | some c =>
      obtain ⟨C, T, N⟩ := c
      rw [hc] at hk
      simp only [Bool.and_eq_true, decide_eq_true_eq] at hk
      refine ⟨C, T, N, rfl, hk.1, fun hb => ?_, fun hb => ?_⟩
      · subst hb; exact q_has_in hk.2
      · subst hb; exact q_hasN_in rfl hk.2
theorem q_ki_ok {w j : Nat} {v : Int32} {o : String} (ho : q_ow[w]? = some o) (h : q_ki w j = some v) : Cond.constant o j v ∈ q_tbl := by
  unfold q_ki at h
  cases hf : q_kiL.find? (fun x => x.1 == w && x.2.1 == j) with
  | none => rw [hf] at h; cases h
  | some x =>
    rw [hf] at h
    obtain ⟨hm, e1, e2⟩ := q_find hf
    have hk := List.all_eq_true.mp q_kiL_ok x hm
    obtain ⟨x1, x2, x3, x4⟩ := x
    simp only [Option.map_some, Option.some.injEq] at h
    dsimp only at e1 e2
    subst e1; subst e2; subst h
    dsimp only at hk
    rw [ho] at hk
    exact q_has_in hk
theorem q_kl_ok {w j : Nat} {v : Int64} {o : String} (ho : q_ow[w]? = some o) (h : q_kl w j = some v) : Cond.constantLong o j v ∈ q_tbl := by
  unfold q_kl at h
  cases hf : q_klL.find? (fun x => x.1 == w && x.2.1 == j) with
  | none => rw [hf] at h; cases h
  | some x =>
    rw [hf] at h
    obtain ⟨hm, e1, e2⟩ := q_find hf
    have hk := List.all_eq_true.mp q_klL_ok x hm
    obtain ⟨x1, x2, x3, x4⟩ := x
    simp only [Option.map_some, Option.some.injEq] at h
    dsimp only at e1 e2
    subst e1; subst e2; subst h
    dsimp only at hk
    rw [ho] at hk
    exact q_has_in hk
theorem q_cn_ok {w j ci : Nat} {o : String} {C : String} {T : u_T} {N : Nat} (ho : q_ow[w]? = some o) (h : q_cn w j = some ci) (hc : q_cl[ci]? = some (C, T, N)) : Cond.classLink o j C ∈ q_tbl ∧ Cond.instantiable C N ∈ q_tbl ∧ Cond.initialized C ∈ q_tbl := by
  unfold q_cn at h
  cases hf : q_cnL.find? (fun x => x.1 == w && x.2.1 == j) with
  | none => rw [hf] at h; cases h
  | some x =>
    rw [hf] at h
    obtain ⟨hm, e1, e2⟩ := q_find hf
    have hk := List.all_eq_true.mp q_cnL_ok x hm
    obtain ⟨x1, x2, x3, x4, x5, x6⟩ := x
    simp only [Option.map_some, Option.some.injEq] at h
    dsimp only at e1 e2
    subst e1; subst e2; subst h
    unfold q_okN at hk
    dsimp only at hk
    rw [ho, hc] at hk
    simp only [Bool.and_eq_true] at hk
    exact ⟨q_has_in hk.1.1, q_has_in hk.1.2, q_has_in hk.2⟩
theorem q_oi_ok {w j : Nat} {o : String} (ho : q_ow[w]? = some o) (h : q_oi w j = true) : Cond.methodLink o j Lib.objectInit ∈ q_tbl := by
  unfold q_oi at h
  obtain ⟨x, hm, hx⟩ := List.any_eq_true.mp h
  have hk := List.all_eq_true.mp q_oiL_ok x hm
  obtain ⟨x1, x2, x3⟩ := x
  simp only [Bool.and_eq_true, beq_iff_eq] at hx
  obtain ⟨rfl, rfl⟩ := hx
  dsimp only at hk
  rw [ho] at hk
  exact q_has_in hk
theorem q_mm_ok {w j : Nat} {b : Bool} {o : String} (ho : q_ow[w]? = some o) (h : q_mm w j = some b) : Cond.methodLink o j (if b = true then Lib.Math.max.name else Lib.Math.min.name) ∈ q_tbl := by
  unfold q_mm at h
  cases hf : q_mmL.find? (fun x => x.1 == w && x.2.1 == j) with
  | none => rw [hf] at h; cases h
  | some x =>
    rw [hf] at h
    obtain ⟨hm, e1, e2⟩ := q_find hf
    have hk := List.all_eq_true.mp q_mmL_ok x hm
    obtain ⟨x1, x2, x3, x4⟩ := x
    simp only [Option.map_some, Option.some.injEq] at h
    dsimp only at e1 e2
    subst e1; subst e2; subst h
    dsimp only at hk
    rw [ho] at hk
    exact q_has_in hk
def q_kw (o : String) (j : Nat) (y : MethodName) : Nat → Prop
  | 0 => Cond.methodLink o j y ∈ q_tbl ∧ Cond.instanceMethod y ∈ q_tbl ∧ Cond.selects y.cls y y ∈ q_tbl ∧ Cond.initialized y.cls ∈ q_tbl
  | 1 => Cond.methodLink o j y ∈ q_tbl ∧ Cond.instanceMethod y ∈ q_tbl ∧ Cond.initialized y.cls ∈ q_tbl ∧ y.name = "<init>"
  | _ => Cond.methodLink o j y ∈ q_tbl ∧ Cond.static y ∈ q_tbl ∧ Cond.initialized y.cls ∈ q_tbl
theorem q_ml_ok {w j na kd : Nat} {M : q_MT} {o : String} (ho : q_ow[w]? = some o) (h : q_ml w j = some (na, M, kd)) : q_okM M = true ∧ (parseMethodDescriptor (q_y M).desc).map (fun d => d.parameters.length) = some na ∧ q_kw o j (q_y M) kd ∧ (kd = 1 → q_r M = none) := by
  unfold q_ml at h
  cases hf : q_mlL.find? (fun x => x.1 == w && x.2.1 == j) with
  | none => rw [hf] at h; cases h
  | some x =>
    rw [hf] at h
    obtain ⟨hm, e1, e2⟩ := q_find hf
    have hk := List.all_eq_true.mp q_mlL_ok x hm
    obtain ⟨x1, x2, x3, x4, x5, x6⟩ := x
    simp only [Option.map_some, Option.some.injEq, Prod.mk.injEq] at h
    obtain ⟨h1, h2, h3⟩ := h
    dsimp only at e1 e2
    subst e1; subst e2; subst h1; subst h2; subst h3
    unfold q_okL at hk
    dsimp only at hk
    rw [ho] at hk
    simp only [Bool.and_eq_true, decide_eq_true_eq] at hk
    obtain ⟨⟨hk1, hk2⟩, hk3⟩ := hk
    refine ⟨hk1, hk2, ?_⟩
    match x5, hk3 with
    | 0, hk3 =>
      have := q_hasL_in _ _ hk3
      exact ⟨⟨this _ (by simp), this _ (by simp), this _ (by simp), this _ (by simp)⟩, fun h => by cases h⟩
    | 1, hk3 =>
      simp only [Bool.and_eq_true, decide_eq_true_eq] at hk3
      have := q_hasL_in _ _ hk3.1.1
      exact ⟨⟨this _ (by simp), this _ (by simp), this _ (by simp), hk3.1.2⟩, fun _ => hk3.2⟩
    | k + 2, hk3 =>
      have := q_hasL_in _ _ hk3
      exact ⟨⟨this _ (by simp), this _ (by simp), this _ (by simp)⟩, fun h => by cases h⟩
theorem q_okM_s {M : q_MT} (h : q_okM M = true) : Cond.code (q_y M) (q_b M) (q_ln M) (q_r M) ∈ q_tbl ∧ q_ow[M.1]? = some (q_y M).cls ∧ plainName (q_y M).cls = true ∧ q_ln M + 19 ≤ 64 ∧ (q_y M).cls ≠ "java/lang/invoke/MethodHandle" ∧ (q_y M).cls ≠ "java/lang/invoke/VarHandle" := by
  unfold q_okM at h
  simp only [Bool.and_eq_true, decide_eq_true_eq] at h
  exact ⟨q_isC_in h.1.1.1.1, h.1.1.1.2, h.1.1.2, h.1.2, h.2.1, h.2.2⟩
theorem q_tbl_good : ∀ w ∈ q_tbl, (w.onTables && w.keeps) = true ∨ ∃ ty, w = .arrayClass ty := fun w h => good_of_word (List.mem_filter.mp h).2
theorem q_good {M M' : q_MT} (h : Cond.code (q_y M') (q_b M') (q_ln M') (q_r M') ∈ q_tbl) : GoodIn (q_ws M) (q_ws M') := by
  intro w hw
  have hq : w ∈ q_tbl := by
    rcases List.mem_cons.mp hw with rfl | hw
    · exact h
    · exact hw
  exact ⟨List.mem_cons_of_mem _ hq, q_tbl_good w hq⟩
theorem q_NW.same {u U : State} (h : u.vm = U.vm) (hN : q_NW u) : q_NW U := by
  refine ⟨fun w hw => ?_, va_AO.moved (by rw [h]; exact Vm.Alike.refl _) hN.2⟩
  have h1 := hN.1 w hw
  have h2 := (List.mem_filter.mp hw).2
  cases w <;> first | exact va_Nw.same rfl h h1 | cases h2
theorem q_NW.warm {s U : State} (h : s.WarmedH U.vm) (hN : q_NW s) : q_NW U := by
  refine ⟨fun w hw => ?_, va_AO.moved h.alike hN.2⟩
  have h1 := hN.1 w hw
  have h2 := (List.mem_filter.mp hw).2
  cases w <;> first | exact va_Nw.warmF h h1 | cases h2
theorem q_an_ok {w j : Nat} {o : String} (ho : q_ow[w]? = some o) (h : q_an w j = true) : Cond.classLink o j "FontOutlines$Part" ∈ q_tbl := by
  unfold q_an at h
  obtain ⟨x, hm, hx⟩ := List.any_eq_true.mp h
  have hk := List.all_eq_true.mp q_anL_ok x hm
  obtain ⟨x1, x2, x3⟩ := x
  simp only [Bool.and_eq_true, beq_iff_eq] at hx
  obtain ⟨rfl, rfl⟩ := hx
  dsimp only at hk
  rw [ho] at hk
  exact q_has_in hk
theorem q_ac_ok {w j : Nat} {o : String} (ho : q_ow[w]? = some o) (h : q_ac w j = true) : Cond.methodLink o j arraycopyName ∈ q_tbl := by
  unfold q_ac at h
  obtain ⟨x, hm, hx⟩ := List.any_eq_true.mp h
  have hk := List.all_eq_true.mp q_acL_ok x hm
  obtain ⟨x1, x2, x3⟩ := x
  simp only [Bool.and_eq_true, beq_iff_eq] at hx
  obtain ⟨rfl, rfl⟩ := hx
  dsimp only at hk
  rw [ho] at hk
  exact q_has_in hk
