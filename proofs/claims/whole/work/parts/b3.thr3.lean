/-! a method that throws, by its body -/
theorem t_in {G : q_G} {l : Launch} {M : q_MT} {d mc ms : Nat} {Tq : q_T} {As : List Value} {h : q_H} {n : Nat} (hM : q_okM M = true) (hA : (lg_sl As).length ≤ q_ln M) (hh : q_Y G l M d mc ms Tq 0 (q_pad (q_ln M) (q_ar As)) [] h n 0 0) : q_Thr G l M d mc ms As h n Tq := by
  obtain ⟨m1, m2, m3, m4, m5⟩ := q_okM_s hM
  unfold q_Thr
  refine MetFree.of_bodyS (code := q_b M) (maxLocals := q_ln M) (ret := q_r M) m3 ?_ ?_
  · intro args s m h hn
    obtain ⟨meth, c, h1, h2, h3, h4, h5, h6, -, -⟩ := Cond.code_spec hn (atoms_spec (ws := q_ws M) h _ List.mem_cons_self)
    exact ⟨meth, c, h1, h2, h3, h4, h5, h6⟩
  · intro p e s m args below meth c s₁ B hml hP _
    obtain ⟨rfl, r, hKx, hSt⟩ := hP
    have hh0 : s₁.heap = s.heap := by rw [B.state]; rfl
    have X := Stand.of_body B
    obtain ⟨meth', c', h1, h2, -, -, -, -, h7, -⟩ := Cond.code_spec B.named (atoms_spec (ws := q_ws M) B.pre _ List.mem_cons_self)
    cases X.method.symm.trans h1
    cases X.code.symm.trans h2
    have hl := lv_entry As (n := q_ln M) hA
    have hw : W p l e (q_rm d mc ms) s m As.toArray below meth c s.heap [] 0 0 (MQT below (q_Qt G Tq) As.toArray s mc ms (q_A G)) (entryFrame m As.toArray (q_ln M)) := by
      rw [lg_entry_eq]
      generalize (lg_sl As ++ List.replicate (q_ln M - (lg_sl As).length) Slot.unset).toArray = ls at hl ⊢
      refine hh p e s m _ below meth c s.heap [] ls ⟨B.exec, B.bytes, B.returns, hml, B.notSynchronized, findClass_of_methodNamed B.named, atoms_spec (ws := q_ws M) B.pre, hKx, (name_of_methodNamed B.named B.method).1, m2⟩ hSt ?_ r va_S.rf ⟨hl.1, hl.2.1, fun q hq => ?_⟩
      · have := Array.isEmpty_iff.mp h7
        rw [this]
      · obtain ⟨j, h1, h2⟩ := (q_pr_m _ 0 q.1 q.2).mp hq
        have h3 := q_ar_a As 0 j q.2 (q_pad_g _ _ _ _ h2)
        exact hl.2.2 q (by rw [show q = (0 + j, q.2) by rw [← h1]]; exact h3)
    obtain ⟨t, a1, o, b1, b2, b3, b4⟩ := hw s₁ hh0 X
    exact ⟨t, o, a1, b1, b2, b3, b4⟩
