/-! a call of a method that throws -/
section X6
variable {p : Program} {l : Launch} {e : Env} {R : Room} {s : State} {m : MethodId} {args : Array Value} {below : List Frame} {meth : Method} {c : Code} {T : State} {locs : List Loc} {cells slots : Nat}
set_option maxRecDepth 100000 in
set_option maxHeartbeats 4000000 in
theorem x_thrV {G : q_G} {M' : q_MT} {d' mc' ms' na n j : Nat} {Tq : q_T} {h : q_H} {own C : String} {b : Addr} {bs rest : List Value} {g : JFrame} {s₀ : State} {H : Heap}
    (X : Stand p l e R s m args below meth c T locs cells slots) (hT : T.heap = H) (hx : p.tables.exec = Jvm.exec) (hown : s.vm.findClass own = some m.cls)
    (cw : CallW R s args own C j (q_y M') (q_b M') (q_ln M') (q_r M') (q_ws M') (q_rm d' mc' ms') mc' ms' na)
    {cellB : Cell} (hcB : H[b]? = some cellB) (hoB : cellB.vm.isStatics = false) (hclB : s.vm.findClass C = some cellB.cls)
    (hq : q_Thr G l M' d' mc' ms' (.ref b :: bs) h n Tq) (hKx : q_Kx G s) (sx : q_St G s) (r : q_rel G h n H) (hS : va_S (q_A G) s.heap H locs)
    (hg : g.method = m) (hsize : g.locals.size = c.maxLocals) (hcome : Steps p.tables e below s₀ (T.setTop g)) (hn : bs.length = na) (hstack : g.stack = bs.reverse ++ .ref b :: rest) (hW : 2 * g.monitorRoom + (rest.map fun v => v.category).sum ≤ 8) (hdg : decode c.code g.pc = .ok (.invokevirtual j, 3)) (hf : cells + mc' ≤ R.cells ∧ slots + ms' ≤ R.slots) :
    ∃ (v : Addr) (T' : State) (L : List Loc) (kd : Nat) (h' : q_H) (n' : Nat) (ce : Cell), Stand p l e R s m args below meth c T' (locs ++ L) (cells + mc') (slots + ms') ∧ T'.heap[v]? = some ce ∧ s.vm.findClass (x_nm kd) = some ce.cls ∧ ce.vm = .none ∧ q_rel G h' n' T'.heap ∧ Tq kd h' n' ∧ va_S (q_A G) s.heap T'.heap (locs ++ L) ∧ Steps p.tables e below s₀ ((T'.setTop { g with stack := rest }).pushFrame (.throwing v)) := by
  obtain ⟨⟨hrc, hrs, hRf, hRl, hws, hcin, hcode, hini, hy, hlen, hl⟩, hin, hse⟩ := cw
  have hK : BackT l R p e below s args (q_y M') 3 8 (fun A a => A.cells + mc' ≤ R.cells ∧ A.slots + ms' ≤ R.slots ∧ a = (Value.ref b :: bs).toArray ∧ A.U.heap = H)
      (fun A a x B => ∃ (L : List Loc) (kd : Nat) (h' : q_H) (n' : Nat) (ce : Cell), B.locs = A.locs ++ L ∧ B.cells = A.cells + mc' ∧ B.slots = A.slots + ms' ∧ B.U.heap[x]? = some ce ∧ s.vm.findClass (x_nm kd) = some ce.cls ∧ ce.vm = .none ∧ q_rel G h' n' B.U.heap ∧ Tq kd h' n' ∧ (∀ q ∈ L, q_A G q.base) ∧ H.size ≤ B.U.heap.size ∧ ∀ q : Nat, q < H.size → ¬ q_A G q → B.U.heap[q]? = H[q]?) := by
    refine BackT.of_free (bytes := q_b M') (maxL := q_ln M') (ret := q_r M') (E := fun a st o t L k n => k = mc' ∧ n = ms' ∧ ∀ q ∈ L, q_A G q.base) hq hRf hRl ?_ ?_ (fun _ _ _ _ _ _ _ _ _ => trivial) ?_ ?_
    · intro m meth c A a X hp
      exact ⟨atoms_intro fun w hw => hws w hw _ _ X.warmed, hws _ hcin _ _ X.warmed, word_at X.warmed (Or.inl (by first | rfl | simp [Cond.onTables, Cond.keeps, Cond.steady])) hini, hp.1, hp.2.1⟩
    · intro m meth c A a g mk X hp
      obtain ⟨-, -, rfl, hh⟩ := hp
      have hu : (A.U.calling g mk (Value.ref b :: bs).toArray).heap = H := hh
      have hw : s.WarmedH (A.U.calling g mk (Value.ref b :: bs).toArray).vm := X.warmed
      obtain ⟨e1, e2, e3⟩ := q_pre hKx r hS (.ref b :: bs) _ hu hw
      exact ⟨e1, e2, e3, sx.mv hw (fun a ha => by rw [hu]; exact hS.2.1 a (Nat.lt_of_lt_of_le ha hKx.2.2) (fun q => absurd ha (Nat.not_lt.mpr q)))⟩
    · rintro a first o t ⟨hq, L, hF, hL⟩
      exact ⟨L, mc', ms', hF, rfl, rfl, hL⟩
    · rintro m meth c A a g mk v t L k n X hp ⟨hqt, -⟩ hF ⟨rfl, rfl, hL⟩
      obtain ⟨x, kd, h', n', ce, ho, k1, k2, k3, k4, k5, k6⟩ := hqt
      cases ho
      obtain ⟨-, -, -, hh⟩ := hp
      have k2' : A.U.vm.findClass (x_nm kd) = some ce.cls := k2
      have k6' : A.U.heap.size ≤ t.heap.size ∧ ∀ q : Nat, q < A.U.heap.size → ¬ q_A G q → t.heap[q]? = A.U.heap[q]? := k6
      rw [hh] at k6'
      exact ⟨L, kd, h', n', ce, rfl, rfl, rfl, k1, by rw [← X.warmed.alike.findClass]; exact k2', k3, k4, k5, hL, k6'.1, k6'.2⟩
  obtain ⟨mk, methM, hnamed, hmethM, hstM, habM⟩ := Cond.instanceMethod_spec hin
  obtain ⟨methM', cM, hmethM', -, -, -, -, -, -, hsigM⟩ := Cond.code_spec hnamed hcode
  cases hmethM.symm.trans hmethM'
  obtain ⟨c2, r2, m2, q1, q2, q3, q4, kP, hkP, hkPi⟩ := Cond.selects_spec hse
  cases hclB.symm.trans q1
  cases (State.methodFound?_of_named hnamed hy).symm.trans q2
  cases hnamed.symm.trans q3
  have hselP : selectMethod e.platform s.vm cellB.cls mk = .method mk := by rw [Launch.admits_selectMethod X.admits]; exact q4
  obtain ⟨vm₁, X₁, hstep₁⟩ := X.invokevirtual hx hown hl hnamed hmethM hstM hkP hkPi hy (a := b) (cell := cellB) (by rw [hT]; exact hcB)
    (fun z h => by rw [h] at hoB; cases hoB) hselP hmethM habM hkP hkPi (g := g) hg (argsL := bs) (rest := rest) (hn.trans (hlen _ hsigM)) hstack hdg
  obtain ⟨v, B, X', ⟨L, kd, h', n', ce, b1, b2, b3, k1, k2, k3, k4, k5, k6, k7, k8⟩, hsteps⟩ := hK m meth c ⟨T.setVm vm₁, locs, cells, slots⟩ { g with stack := rest } (.invokevirtual j) mk (Value.ref b :: bs).toArray X₁ hg hsize hdg hW (X₁.named hnamed) ⟨hf.1, hf.2, rfl, hT⟩
  rw [b1, b2, b3] at X'
  refine ⟨v, B.U, L, kd, h', n', ce, X', k1, k2, k3, k4, k5, ⟨Nat.le_trans hS.1 k7, fun q g1 g2 => (k8 q (Nat.lt_of_lt_of_le g1 hS.1) g2).trans (hS.2.1 q g1 g2), fun q hq => ?_⟩, (hcome.trans (hstep₁ _ fun acts => by rw [doInvoke_state]; exact Steps.refl _)).trans hsteps⟩
  rcases List.mem_append.mp hq with hh | hh
  · exact hS.2.2 q hh
  · exact k6 q hh
end X6
