/-! what throws: the statics that a Throwable's constructor reads -/
def x_sw : List Cond := [.isRef (.static "java/lang/Throwable" "UNASSIGNED_STACK" "[Ljava/lang/StackTraceElement;"), .isRef (.static "java/lang/Throwable" "SUPPRESSED_SENTINEL" "Ljava/util/List;")]
theorem x_kf : ∀ w ∈ x_sw, w.keepsFace = true := by decide +kernel
def q_St (G : q_G) (U : State) : Prop := ∀ w ∈ x_sw, ∀ (args : Array Value) (H : Heap), (∀ a : Nat, a < G.2.2 → H[a]? = U.heap[a]?) → w.before args (U.withHeap H) = true
theorem x_st {C f d : String} {S U : State} {args : Array Value} (hv : S.vm = U.vm) (hh : S.heap = U.heap) (h : (Cond.isRef (.static C f d)).before args S = true) : (Cond.isRef (.static C f d)).before args U = true := by
  have hn : S.fieldNamed? C f d true = U.fieldNamed? C f d true := by
    unfold State.fieldNamed? State.fieldFound?
    rw [hv]
  simp only [Cond.before, Cond.holds, Cond.value, Term.eval, hn, hh] at h ⊢
  exact h
theorem q_St.mv {G : q_G} {s U : State} (h : q_St G s) (hW : s.WarmedH U.vm) (hH : ∀ a : Nat, a < G.2.2 → U.heap[a]? = s.heap[a]?) : q_St G U := by
  intro w hw args H hh
  have h1 := h w hw args H (fun a ha => (hh a ha).trans (hH a ha))
  have h2 := Cond.before_shiftedFace (State.Shifted.of_warmed (show (s.withHeap H).WarmedH U.vm from hW)) w (x_kf w hw) h1
  rcases List.mem_cons.mp hw with rfl | hw
  · exact x_st (S := (s.withHeap H).setVm U.vm) rfl rfl h2
  · rcases List.mem_cons.mp hw with rfl | hw
    · exact x_st (S := (s.withHeap H).setVm U.vm) rfl rfl h2
    · cases hw
theorem q_St.at {G : q_G} {U : State} (h : q_St G U) {w : Cond} (hw : w ∈ x_sw) (args : Array Value) : w.before args U = true := h w hw args U.heap (fun _ _ => rfl)
/-- what is thrown -/
def x_nm : Nat → String
  | 0 => "java/lang/IndexOutOfBoundsException"
  | 1 => "java/lang/IllegalArgumentException"
  | _ => "java/lang/IllegalStateException"
abbrev q_T : Type := Nat → q_H → Nat → Prop
def q_Qt (G : q_G) (T : q_T) : Array Value → State → Outcome → State → Prop := fun _ st oc t => ∃ (x : Addr) (kd : Nat) (h : q_H) (n : Nat) (ce : Cell), oc = .threw x ∧ t.heap[x]? = some ce ∧ st.vm.findClass (x_nm kd) = some ce.cls ∧ ce.vm = .none ∧ q_rel G h n t.heap ∧ T kd h n ∧ va_F (q_A G) st t
def MQT (below : List Frame) (Qc : Array Value → State → Outcome → State → Prop) (a : Array Value) (s : State) (mc ms : Nat) (free : Addr → Prop) : State → Prop := fun t =>
  ∃ o, t.status = .running ∧ Ended t below o ∧ Qc a s o t ∧ ∃ L, FrameEndT s o t L mc ms ∧ ∀ q ∈ L, free q.base
/-- calling M with As throws; then T -/
def q_Thr (G : q_G) (l : Launch) (M : q_MT) (d mc ms : Nat) (As : List Value) (h : q_H) (n : Nat) (T : q_T) : Prop :=
  MetFree l (q_y M) (headSpec (q_ws M) (q_rm d mc ms)) (va_Pc As (fun U => q_rel G h n U.heap ∧ q_Kx G U ∧ q_St G U)) (fun _ _ _ _ _ => True) (fun a st o t => q_Qt G T a st o t ∧ ∃ L, FrameEndT st o t L mc ms ∧ ∀ q ∈ L, q_A G q.base)
def q_Y (G : q_G) (l : Launch) (M : q_MT) (d mc ms : Nat) (T : q_T) (pc : Nat) : q_C := fun lv st h n k sl =>
  ∀ (p : Program) (e : Env) (s : State) (m : MethodId) (args : Array Value) (below : List Frame) (meth : Method) (c : Code) (H : Heap) (locs : List Loc) (ls : Array Slot), q_Cx G l M p s m args meth c → q_St G s → c.exceptionTable.toList = [] → q_rel G h n H → va_S (q_A G) s.heap H locs → q_lv ls (q_ln M) lv →
    W p l e (q_rm d mc ms) s m args below meth c H locs k sl (MQT below (q_Qt G T) args s mc ms (q_A G)) (F0 m pc ls st)
