/-! the law's helpers: methods with handlers -/
def h_Ex (G : q_G) (hs : List (Nat × Nat × Nat × Nat)) : State → Code → Prop := fun s c => q_St G s ∧ c.exceptionTable.toList = tableOf hs
def q_Hlp (G : q_G) (l : Launch) (y : MethodName) (cc : ByteArray) (lnn : Nat) (hs : List (Nat × Nat × Nat × Nat)) (d mc ms : Nat) (As : List Value) (h : q_H) (n : Nat) (Q : q_P) : Prop :=
  Met l y (Cond.codeWith y cc lnn (some .int) hs :: q_tbl) (q_rm d mc ms) (va_Pc As (fun U => q_rel G h n U.heap ∧ q_Kx G U ∧ q_St G U)) (q_Qc G Q) mc ms (q_A G)
theorem h_in {G : q_G} {l : Launch} {y : MethodName} {cc : ByteArray} {lnn : Nat} {hs : List (Nat × Nat × Nat × Nat)} {M : q_MT} {d mc ms : Nat} {As : List Value} {h : q_H} {n : Nat} {Q : q_P} (hy : plainName y.cls = true) (how : q_ow[M.1]? = some y.cls) (hr : q_r M = some .int) (hA : (lg_sl As).length ≤ lnn)
    (hh : q_V G l (h_Ex G hs) y cc lnn (Cond.codeWith y cc lnn (some .int) hs :: q_tbl) M d mc ms Q 0 (q_pad lnn (q_ar As)) [] h n 0 0) : q_Hlp G l y cc lnn hs d mc ms As h n Q := by
  unfold q_Hlp
  refine va_MetW (hh := hs) hy rfl ?_
  intro p e s m args below meth c s₁ B hml hv
  obtain ⟨rfl, r, hKx, hSt⟩ := hv
  have X := Stand.of_body B
  obtain ⟨m9, meth', c', hn9, h1, h2, -, -, h5, -, -, -⟩ := Cond.codeWith_spec (atoms_spec (ws := Cond.codeWith y cc lnn (some .int) hs :: q_tbl) B.pre _ List.mem_cons_self)
  cases B.named.symm.trans hn9
  cases X.method.symm.trans h1
  cases X.code.symm.trans h2
  rw [lg_entry_eq]
  have hl := lv_entry As (n := lnn) hA
  generalize (lg_sl As ++ List.replicate (lnn - (lg_sl As).length) Slot.unset).toArray = ls at hl ⊢
  refine hh p e s m _ below meth c s.heap [] ls ⟨B.exec, B.bytes, B.returns.trans hr.symm, hml, B.notSynchronized, findClass_of_methodNamed B.named, atoms_spec (ws := Cond.codeWith y cc lnn (some .int) hs :: q_tbl) B.pre, hKx, (name_of_methodNamed B.named B.method).1, how, fun w hw => List.mem_cons_of_mem _ hw⟩ ⟨hSt, by rw [← h5, table_eq]⟩ r va_S.rf ⟨hl.1, hl.2.1, fun q hq => ?_⟩
  obtain ⟨j, h1, h2⟩ := (q_pr_m _ 0 q.1 q.2).mp hq
  have h3 := q_ar_a As 0 j q.2 (q_pad_g _ _ _ _ h2)
  exact hl.2.2 q (by rw [show q = (0 + j, q.2) by rw [← h1]]; exact h3)
set_option maxRecDepth 100000 in
set_option maxHeartbeats 4000000 in
theorem h_thr {G : q_G} {l : Launch} {y : MethodName} {cc : ByteArray} {lnn : Nat} {hs : List (Nat × Nat × Nat × Nat)} {Ts : List Cond} {M M' : q_MT} {d' mc ms mc' ms' na pc hpc j n k sl K : Nat} {Q : q_P} {lv : q_L} {h : q_H} {b : Nat} {fs bs r : List Value} (hm : q_ml M.1 j = some (na, M', 0)) (hbo : h b = some (.inr (M'.1, fs))) (hlen : bs.length = na) (hcat : (r.map fun v => v.category).sum ≤ 8) (hd : decode cc pc = .ok (.invokevirtual j, 3)) (hk : k + mc' ≤ mc) (hsl : sl + ms' ≤ ms)
    (pre : List ExceptionTableEntry) (x : ExceptionTableEntry) (rest : List ExceptionTableEntry) (htab : tableOf hs = pre ++ x :: rest) (hpass : ∀ z ∈ pre, ∃ nm, z.catchType ≠ 0 ∧ Cond.classLink y.cls z.catchType nm ∈ q_tbl ∧ (x_nm K, nm) ∈ x_nc) (hcv : covers x pc = true) (h0 : x.catchType ≠ 0) (hlink : Cond.classLink y.cls x.catchType (x_nm K) ∈ q_tbl) (hpc' : x.handlerPc = hpc) (hself : Cond.castable (x_nm K) (x_nm K) ∈ x_w)
    (hq : q_Thr G l M' d' mc' ms' (.ref b :: bs) h n (fun kd h' n' => kd = K ∧ ∀ v : Nat, q_V G l (h_Ex G hs) y cc lnn Ts M (d' + 1) mc ms Q hpc lv [.ref v] h' n' (k + mc') (sl + ms'))) : q_V G l (h_Ex G hs) y cc lnn Ts M (d' + 1) mc ms Q pc lv (bs.reverse ++ .ref b :: r) h n k sl := by
  intro p e s m args below meth c H locs ls cx ex rl hS hl T hT X
  have hx := cx.1
  have hb := cx.2.1
  have hml := cx.2.2.2.1
  have hown := cx.2.2.2.2.2.1
  have hts := cx.2.2.2.2.2.2.1
  have hKx := cx.2.2.2.2.2.2.2.1
  have how := cx.2.2.2.2.2.2.2.2.2.1
  have hTs := cx.2.2.2.2.2.2.2.2.2.2
  have tb : ∀ w ∈ q_tbl, w.before args s = true := fun w hw => hts w (hTs w hw)
  obtain ⟨hM, hpd, ⟨w1, w2, w3, w4⟩, -⟩ := q_ml_ok how hm
  obtain ⟨m1, m2, m3, m4, m5⟩ := q_okM_s hM
  have hcw : CallW (q_rm (d' + 1) mc ms) s args y.cls (q_y M').cls j (q_y M') (q_b M') (q_ln M') (q_r M') (q_ws M') (q_rm d' mc' ms') mc' ms' na :=
    ⟨callB_of na hts (v_good hTs m1) rfl rfl rfl (tb _ w4) (tb _ w1) ⟨m5.1, m5.2, hpd⟩ ⟨Nat.le_refl _, by show 8 + (q_ln M' + 11) + 64 * d' ≤ 64 * (d' + 1); omega⟩, tb _ w2, tb _ w3⟩
  obtain ⟨rr, hrr, cell, q1, q2, q3, -⟩ := (rl.2 b _ hbo).2
  have hcls := (hKx.1.1 M'.1 rr hrr).2.1
  have hrc : rr.1 = (q_y M').cls := Option.some.inj ((x_ow _ _ hrr).symm.trans m2)
  obtain ⟨v, T', L, kd, h', n', ce, X', k1, k2, k3, k4, ⟨k0, k5⟩, k6, st⟩ := x_thrV X hT hx hown hcw q1 (by rw [q3]; rfl) (by rw [← hrc, q2]; exact hcls) hq hKx ex.1 rl hS (g := F0 m pc ls (bs.reverse ++ .ref b :: r)) rfl (by rw [hml]; exact hl.1) (Steps.refl _) hlen rfl (by show 2 * 0 + _ ≤ 8; omega) (by rw [hb]; exact hd) ⟨hk, hsl⟩
  subst k0
  have hpl : e.platform.magicAccessors = ({} : Platform).magicAccessors := by rw [X.admits.platform]
  obtain ⟨c3, c4, hc3, hc4, hasg⟩ := Cond.castable_spec (ex.1.at hself args)
  cases k2.symm.trans hc3
  cases k2.symm.trans hc4
  obtain ⟨hrow, hkk⟩ := X'.catches_of_link hown h0 (tb _ hlink) k2 hasg
  obtain ⟨vm', XV, st2⟩ := X'.thenCaughtThrough v (g := { (F0 m pc ls (bs.reverse ++ .ref b :: r)) with stack := r }) rfl st k1 (by rw [k3]; rfl) hkk pre x rest (by rw [ex.2]; exact htab) (fun z hz => by
    obtain ⟨nm, z0, z1, z2⟩ := hpass z hz
    exact RowPassed.of_words hpl hown z0 (tb _ z1) k2 (x_nc_mv (State.WarmedH.refl s) (ex.1.2.2 _ z2) (args' := args))) hcv hrow
  subst hpc'
  obtain ⟨t, a1, b1⟩ := k5 v p e s m args below meth c T'.heap (locs ++ L) ls cx ex k4 k6 hl (T'.setVm vm') rfl XV
  exact ⟨t, st2.trans a1, b1⟩
