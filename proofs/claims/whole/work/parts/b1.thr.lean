/-! what throws: the statics that a Throwable's constructor reads -/
def x_w : List Cond := [.laysStatic "java/lang/Throwable" "UNASSIGNED_STACK" "[Ljava/lang/StackTraceElement;", .laysStatic "java/lang/Throwable" "SUPPRESSED_SENTINEL" "Ljava/util/List;", .isRef (.static "java/lang/Throwable" "UNASSIGNED_STACK" "[Ljava/lang/StackTraceElement;"), .isRef (.static "java/lang/Throwable" "SUPPRESSED_SENTINEL" "Ljava/util/List;"), .declares (Bundle.initS "java/lang/RuntimeException"), .declares (Bundle.initS "java/lang/Exception"), .declares (Bundle.initS "java/lang/Throwable"), .castable "java/lang/IndexOutOfBoundsException" "java/lang/IndexOutOfBoundsException", .castable "java/lang/IllegalArgumentException" "java/lang/IllegalArgumentException", .castable "java/lang/IllegalStateException" "java/lang/IllegalStateException"]
theorem x_kf : ∀ w ∈ x_w, w.keepsFace = true := by decide +kernel
/-- the texts of what is thrown -/
def x_s : List (Nat × String) := [(55, "no such byte"), (62, "not a byte"), (73, "fewer bytes than none"), (93, "no such character"), (109, "no such glyph, or measure"), (143, "no such glyph, or what"), (145, "no such point"), (153, "no such what"), (163, "no font")]
/-- what is thrown is none of these -/
def x_nc : List (String × String) := [("java/lang/IllegalArgumentException", "java/lang/IndexOutOfBoundsException"), ("java/lang/IllegalArgumentException", "java/lang/IllegalStateException"), ("java/lang/IndexOutOfBoundsException", "java/lang/IllegalStateException")]
theorem x_nc_mv {s U : State} {a b : String} {args args' : Array Value} (hW : s.WarmedH U.vm) (h : (Cond.not (.castable a b)).before args s = true) : (Cond.not (.castable a b)).before args' U = true := by
  simp only [Cond.before, Cond.holds, Cond.value, hW.alike.findClass, hW.alike.assignable] at h ⊢
  exact h
def q_St (G : q_G) (U : State) : Prop := (∀ w ∈ x_w, ∀ (args : Array Value) (H : Heap), (∀ a : Nat, a < G.2.2 → H[a]? = U.heap[a]?) → w.before args (U.withHeap H) = true) ∧ (∀ q ∈ x_s, ∃ a, vk_R "FontOutlines" q.1 q.2 a U) ∧ ∀ q ∈ x_nc, (Cond.not (.castable q.1 q.2)).before #[] U = true
theorem x_st {C f d : String} {S U : State} {args : Array Value} (hv : S.vm = U.vm) (hh : S.heap = U.heap) (h : (Cond.isRef (.static C f d)).before args S = true) : (Cond.isRef (.static C f d)).before args U = true := by
  have hn : S.fieldNamed? C f d true = U.fieldNamed? C f d true := by
    unfold State.fieldNamed? State.fieldFound?
    rw [hv]
  simp only [Cond.before, Cond.holds, Cond.value, Term.eval, hn, hh] at h ⊢
  exact h
theorem x_ls {C f d : String} {S U : State} {args : Array Value} (hv : S.vm = U.vm) (hh : S.heap = U.heap) (h : (Cond.laysStatic C f d).before args S = true) : (Cond.laysStatic C f d).before args U = true := by
  have hn : S.fieldNamed? C f d true = U.fieldNamed? C f d true := by
    unfold State.fieldNamed? State.fieldFound?
    rw [hv]
  have hf : S.fieldFound? C f d = U.fieldFound? C f d := by
    unfold State.fieldFound?
    rw [hv]
  simp only [Cond.before, Cond.holds, Cond.value, hn, hf, hh, hv] at h ⊢
  exact h
theorem x_dc {y : MethodName} {S U : State} {args : Array Value} (hv : S.vm = U.vm) (h : (Cond.declares y).before args S = true) : (Cond.declares y).before args U = true := by
  have hn : S.methodNamed? y = U.methodNamed? y := by
    unfold State.methodNamed?
    rw [hv]
  simp only [Cond.before, Cond.holds, Cond.value, hn, hv] at h ⊢
  exact h
theorem x_ca {a b : String} {S U : State} {args : Array Value} (hv : S.vm = U.vm) (h : (Cond.castable a b).before args S = true) : (Cond.castable a b).before args U = true := by
  simp only [Cond.before, Cond.holds, Cond.value, hv] at h ⊢
  exact h
theorem x_same {S U : State} {args : Array Value} (hv : S.vm = U.vm) (hh : S.heap = U.heap) {w : Cond} (hw : w ∈ x_w) (h : w.before args S = true) : w.before args U = true := by
  simp only [x_w, List.mem_cons, List.not_mem_nil, or_false] at hw
  rcases hw with rfl | rfl | rfl | rfl | rfl | rfl | rfl | rfl | rfl | rfl
  · exact x_ls hv hh h
  · exact x_ls hv hh h
  · exact x_st hv hh h
  · exact x_st hv hh h
  · exact x_dc hv h
  · exact x_dc hv h
  · exact x_dc hv h
  · exact x_ca hv h
  · exact x_ca hv h
  · exact x_ca hv h
theorem q_St.mv {G : q_G} {s U : State} (h : q_St G s) (hW : s.WarmedH U.vm) (hH : ∀ a : Nat, a < G.2.2 → U.heap[a]? = s.heap[a]?) : q_St G U := by
  refine ⟨fun w hw args H hh => ?_, fun q hq => ?_, fun q hq => x_nc_mv hW (h.2.2 q hq)⟩
  · have h1 := h.1 w hw args H (fun a ha => (hh a ha).trans (hH a ha))
    have h2 := Cond.before_shiftedFace (State.Shifted.of_warmed (show (s.withHeap H).WarmedH U.vm from hW)) w (x_kf w hw) h1
    exact x_same (S := (s.withHeap H).setVm U.vm) (U := U.withHeap H) rfl rfl hw h2
  · obtain ⟨a, ha⟩ := h.2.1 q hq
    exact ⟨a, ha.warm hW⟩
theorem q_St.at {G : q_G} {U : State} (h : q_St G U) {w : Cond} (hw : w ∈ x_w) (args : Array Value) : w.before args U = true := h.1 w hw args U.heap (fun _ _ => rfl)
def x_ok : List Nat → List Cond → Bool
  | [], [] => true
  | i :: is, w :: ws => (q_has i w || x_w.any (fun v => decide (v = w))) && x_ok is ws
  | _, _ => false
theorem x_ok_in : ∀ (is : List Nat) (ws : List Cond), x_ok is ws = true → ∀ w ∈ ws, w ∈ q_tbl ∨ w ∈ x_w
  | [], [], _, w, hw => by cases hw
  | i :: is, v :: ws, h, w, hw => by
    simp only [x_ok, Bool.and_eq_true, Bool.or_eq_true] at h
    rcases List.mem_cons.mp hw with rfl | hw
    · rcases h.1 with q | q
      · exact Or.inl (q_has_in q)
      · obtain ⟨u, h1, h2⟩ := List.any_eq_true.mp q
        rw [decide_eq_true_eq] at h2
        subst h2
        exact Or.inr h1
    · exact x_ok_in is ws h.2 w hw
  | [], _ :: _, h, _, _ => by cases h
  | _ :: _, [], h, _, _ => by cases h
def x_ch : List String := ["java/lang/RuntimeException", "java/lang/Exception"]
theorem x_own0 : x_ok [86, 634, 643, 647, 650, 652, 635, 636, 99, 100, 637, 642, 648, 668, 624, 669, 626, 670, 628, 638, 639, 640, 641, 630, 664, 665, 667, 630, 655, 656, 657, 658, 616, 658, 659, 660, 661, 618, 661, 662, 663, 664, 620, 654, 613, 614, 621, 622, 623, 625, 627, 629, 0, 0, 633, 632, 631] (Bundle.ownAtoms "FontOutlines" 57 "java/lang/IndexOutOfBoundsException" x_ch) = true := by decide +kernel
theorem x_own1 : x_ok [86, 634, 643, 647, 650, 652, 635, 636, 99, 100, 637, 642, 648, 668, 624, 669, 626, 670, 628, 638, 639, 640, 641, 630, 664, 665, 667, 630, 690, 691, 692, 658, 616, 658, 659, 660, 661, 618, 661, 662, 663, 664, 620, 689, 680, 681, 682, 645, 683, 684, 685, 686, 0, 0, 633, 632, 687] (Bundle.ownAtoms "FontOutlines" 64 "java/lang/IllegalArgumentException" x_ch) = true := by decide +kernel
theorem x_own2 : x_ok [86, 634, 643, 647, 650, 652, 635, 636, 99, 100, 637, 642, 648, 668, 624, 669, 626, 670, 628, 638, 639, 640, 641, 630, 664, 665, 667, 630, 730, 731, 732, 658, 616, 658, 659, 660, 661, 618, 661, 662, 663, 664, 620, 729, 720, 721, 722, 646, 723, 724, 725, 726, 0, 0, 633, 632, 727] (Bundle.ownAtoms "FontOutlines" 165 "java/lang/IllegalStateException" x_ch) = true := by decide +kernel
theorem x_cl0 : q_has 612 (.classLink "FontOutlines" 53 "java/lang/IndexOutOfBoundsException") = true ∧ q_has 89 (.initialized "java/lang/IndexOutOfBoundsException") = true := by decide +kernel
theorem x_cl1 : q_has 679 (.classLink "FontOutlines" 60 "java/lang/IllegalArgumentException") = true ∧ q_has 90 (.initialized "java/lang/IllegalArgumentException") = true := by decide +kernel
theorem x_cl2 : q_has 719 (.classLink "FontOutlines" 161 "java/lang/IllegalStateException") = true ∧ q_has 92 (.initialized "java/lang/IllegalStateException") = true := by decide +kernel
/-- what is thrown -/
def x_nm : Nat → String
  | 0 => "java/lang/IndexOutOfBoundsException"
  | 1 => "java/lang/IllegalArgumentException"
  | _ => "java/lang/IllegalStateException"
abbrev q_T : Type := Nat → q_H → Nat → Prop
def q_Qt (G : q_G) (T : q_T) : Array Value → State → Outcome → State → Prop := fun _ st oc t => ∃ (x : Addr) (kd : Nat) (h : q_H) (n : Nat) (ce : Cell), oc = .threw x ∧ t.heap[x]? = some ce ∧ st.vm.findClass (x_nm kd) = some ce.cls ∧ ce.vm = .none ∧ q_rel G h n t.heap ∧ T kd h n ∧ va_F (q_A G) st t
def MQT (below : List Frame) (Qc : Array Value → State → Outcome → State → Prop) (a : Array Value) (s : State) (mc ms : Nat) (free : Addr → Prop) : State → Prop := fun t =>
  ∃ o, t.status = .running ∧ Ended t below o ∧ Qc a s o t ∧ ∃ L, FrameEndT s o t L mc ms ∧ ∀ q ∈ L, free q.base
/-- calling M with As throws; then T -/
def q_Thr (G : q_G) (l : Launch) (M : q_MT) (d mc ms : Nat) (As : List Value) (h : q_H) (n : Nat) (T : q_T) : Prop :=
  MetFree l (q_y M) (headSpec (q_ws M) (q_rm d mc ms)) (va_Pc As (fun U => q_rel G h n U.heap ∧ q_Kx G U ∧ q_St G U)) (fun _ _ _ _ _ => True) (fun a st o t => q_Qt G T a st o t ∧ ∃ L, FrameEndT st o t L mc ms ∧ ∀ q ∈ L, q_A G q.base)
def q_Y (G : q_G) (l : Launch) (M : q_MT) (d mc ms : Nat) (T : q_T) (pc : Nat) : q_C := fun lv st h n k sl =>
  ∀ (p : Program) (e : Env) (s : State) (m : MethodId) (args : Array Value) (below : List Frame) (meth : Method) (c : Code) (H : Heap) (locs : List Loc) (ls : Array Slot), q_Cx G l M p s m args meth c → q_St G s → c.exceptionTable.toList = [] → q_rel G h n H → va_S (q_A G) s.heap H locs → q_lv ls (q_ln M) lv →
    W p l e (q_rm d mc ms) s m args below meth c H locs k sl (MQT below (q_Qt G T) args s mc ms (q_A G)) (F0 m pc ls st)
