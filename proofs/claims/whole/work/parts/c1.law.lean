/-! the walk of a method that is not in the table: the law and its helpers (the walk of 07, its code given by hand) -/
def v_np : Instr → Bool
  | .putfield _ => false
  | _ => true
theorem v_good {Ts : List Cond} {M' : q_MT} (hTs : ∀ w ∈ q_tbl, w ∈ Ts) (h : Cond.code (q_y M') (q_b M') (q_ln M') (q_r M') ∈ q_tbl) : GoodIn Ts (q_ws M') := by
  intro w hw
  have hq := (q_good (M := M') h w hw).2
  rcases List.mem_cons.mp hw with rfl | hw
  · exact ⟨hTs _ h, hq⟩
  · exact ⟨hTs _ hw, hq⟩
def q_Cv (G : q_G) (y : MethodName) (cc : ByteArray) (lnn : Nat) (Ts : List Cond) (M : q_MT) (p : Program) (s : State) (m : MethodId) (args : Array Value) (meth : Method) (c : Code) : Prop :=
  p.tables.exec = Jvm.exec ∧ c.code = cc ∧ meth.sig.returnType = q_r M ∧ c.maxLocals = lnn ∧ meth.locks = false ∧ s.vm.findClass y.cls = some m.cls ∧ (∀ w ∈ Ts, w.before args s = true) ∧ q_Kx G s ∧ meth.name = y.name ∧ q_ow[M.1]? = some y.cls ∧ ∀ w ∈ q_tbl, w ∈ Ts
def q_V (G : q_G) (l : Launch) (Ex : State → Code → Prop) (y : MethodName) (cc : ByteArray) (lnn : Nat) (Ts : List Cond) (M : q_MT) (d mc ms : Nat) (Q : q_P) (pc : Nat) : q_C := fun lv st h n k sl =>
  ∀ (p : Program) (e : Env) (s : State) (m : MethodId) (args : Array Value) (below : List Frame) (meth : Method) (c : Code) (H : Heap) (locs : List Loc) (ls : Array Slot), q_Cv G y cc lnn Ts M p s m args meth c → Ex s c → q_rel G h n H → va_S (q_A G) s.heap H locs → q_lv ls lnn lv →
    W p l e (q_rm d mc ms) s m args below meth c H locs k sl (MQ below (q_Qc G Q) args s mc ms (q_A G)) (F0 m pc ls st)
set_option maxHeartbeats 4000000 in
theorem v_sd {G : q_G} {l : Launch} {Ex : State → Code → Prop} {y : MethodName} {cc : ByteArray} {lnn : Nat} {Ts : List Cond} {M : q_MT} {d mc ms : Nat} {Q : q_P} {K : Nat → q_C} {i : Instr} {pc t : Nat} {nx : q_C} (ln : Nat) (hd : decode cc pc = .ok (i, ln)) (hln : (∃ a b c e, i = .tableswitch a b c e) ∨ (q_isT i = false ∧ ln = q_len i)) (ht : q_tg lnn i pc t = true) (hfn : v_np i = true)
    (hK : ∀ t lv st h n k sl, K t lv st h n k sl → q_V G l Ex y cc lnn Ts M d mc ms Q t lv st h n k sl) (hn : ∀ lv st h n k sl, nx lv st h n k sl → q_V G l Ex y cc lnn Ts M d mc ms Q (pc + ln) lv st h n k sl) :
    ∀ lv st h n k sl, q_ins G l M d mc ms Q K i pc t nx lv st h n k sl → q_V G l Ex y cc lnn Ts M d mc ms Q pc lv st h n k sl := by
  intro lv st h n k sl hi p e s m args below meth c H locs ls cx ex r hS hl
  have hx := cx.1
  have hb := cx.2.1
  have hr := cx.2.2.1
  have hml := cx.2.2.2.1
  have hlk := cx.2.2.2.2.1
  have hown := cx.2.2.2.2.2.1
  have hts := cx.2.2.2.2.2.2.1
  have hKx := cx.2.2.2.2.2.2.2.1
  have hnm := cx.2.2.2.2.2.2.2.2.1
  have how := cx.2.2.2.2.2.2.2.2.2.1
  have hTs : ∀ w ∈ q_tbl, w ∈ Ts := cx.2.2.2.2.2.2.2.2.2.2
  have tb : ∀ w ∈ q_tbl, w.before args s = true := fun w hw => hts w (hTs w hw)
  have hB : G.2.2 ≤ s.heap.size := hKx.2.2
  have hx := hx
  rcases hln with ⟨df, lo, hi', offs, rfl⟩ | ⟨hnt, rfl⟩
  · obtain ⟨x, r2, rfl, h1, h2, h3⟩ := q_i_s hi
    by_cases hq : x.toInt < lo ∨ hi' < x.toInt
    · obtain ⟨g1, g2⟩ := h1 hq
      exact lv_tableOut hx hb hd hq (by omega) (hK _ _ _ _ _ _ _ g2 p e s m args below meth c H locs ls cx ex r hS hl)
    · have q1 : ¬ x.toInt < lo := fun q => hq (Or.inl q)
      have q2 : ¬ hi' < x.toInt := fun q => hq (Or.inr q)
      have q3 : (x.toInt - lo).toNat < offs.size := by omega
      obtain ⟨off, ho⟩ : ∃ off, offs[(x.toInt - lo).toNat]? = some off := ⟨_, Array.getElem?_eq_getElem q3⟩
      obtain ⟨g1, g2⟩ := q_sl_s (j := (x.toInt - lo).toNat) h2 (by rw [Array.getElem?_toList]; exact ho) (by omega)
      exact lv_tableIn hx hb hd q1 q2 ho (by omega) (hK _ _ _ _ _ _ _ g2 p e s m args below meth c H locs ls cx ex r hS hl)
  cases i with
  | iconst v => exact lv_iconst hx hb hd rfl (hn _ _ _ _ _ _ hi p e s m args below meth c H locs ls cx ex r hS hl)
  | bipush v => exact lv_bipush hx hb hd rfl (hn _ _ _ _ _ _ hi p e s m args below meth c H locs ls cx ex r hS hl)
  | sipush v => exact lv_sipush hx hb hd rfl (hn _ _ _ _ _ _ hi p e s m args below meth c H locs ls cx ex r hS hl)
  | lconst v => exact lv_lconst hx hb hd rfl (hn _ _ _ _ _ _ hi p e s m args below meth c H locs ls cx ex r hS hl)
  | ldc j => obtain ⟨v, h1, h2⟩ := q_op_s hi; exact lv_ldc hx hb hown (tb _ (q_ki_ok how h1)) hd (hn _ _ _ _ _ _ h2 p e s m args below meth c H locs ls cx ex r hS hl)
  | ldc_w j => obtain ⟨v, h1, h2⟩ := q_op_s hi; exact lv_ldcw hx hb hown (tb _ (q_ki_ok how h1)) hd (hn _ _ _ _ _ _ h2 p e s m args below meth c H locs ls cx ex r hS hl)
  | ldc2_w j => obtain ⟨v, h1, h2⟩ := q_op_s hi; exact lv_ldc2 hx hb hown (tb _ (q_kl_ok how h1)) hd (hn _ _ _ _ _ _ h2 p e s m args below meth c H locs ls cx ex r hS hl)
  | iload j => obtain ⟨v, h1, h2⟩ := q_li_s hi; exact lv_iload hx hb hd (hl.at h1) (hn _ _ _ _ _ _ h2 p e s m args below meth c H locs ls cx ex r hS hl)
  | iload_n j => obtain ⟨v, h1, h2⟩ := q_li_s hi; exact lv_iload_n hx hb hd rfl (hl.at h1) (hn _ _ _ _ _ _ h2 p e s m args below meth c H locs ls cx ex r hS hl)
  | lload j => obtain ⟨v, h1, h2⟩ := q_lj_s hi; exact lv_lload hx hb hd (hl.at h1) (hn _ _ _ _ _ _ h2 p e s m args below meth c H locs ls cx ex r hS hl)
  | lload_n j => obtain ⟨v, h1, h2⟩ := q_lj_s hi; exact lv_lload_n hx hb hd rfl (hl.at h1) (hn _ _ _ _ _ _ h2 p e s m args below meth c H locs ls cx ex r hS hl)
  | aload j => obtain ⟨v, h1, h2⟩ := q_la_s hi; exact lv_aload hx hb hd (hl.at h1) (hn _ _ _ _ _ _ h2 p e s m args below meth c H locs ls cx ex r hS hl)
  | aload_n j => obtain ⟨v, h1, h2⟩ := q_la_s hi; exact lv_aload_n hx hb hd rfl (hl.at h1) (hn _ _ _ _ _ _ h2 p e s m args below meth c H locs ls cx ex r hS hl)
  | istore j => obtain ⟨v, r', rfl, h2⟩ := q_i_s hi; exact lv_istore hx hb hd hl (of_decide_eq_true ht) rfl (fun ls hl => hn _ _ _ _ _ _ h2 p e s m args below meth c H locs ls cx ex r hS (q_lv.st1 hl))
  | istore_n j => obtain ⟨v, r', rfl, h2⟩ := q_i_s hi; exact lv_istore_n hx hb hd rfl hl (of_decide_eq_true ht) rfl (fun ls hl => hn _ _ _ _ _ _ h2 p e s m args below meth c H locs ls cx ex r hS (q_lv.st1 hl))
  | astore j => obtain ⟨v, r', rfl, h2⟩ := q_a_s hi; exact lv_astore hx hb hd hl (of_decide_eq_true ht) rfl (fun ls hl => hn _ _ _ _ _ _ h2 p e s m args below meth c H locs ls cx ex r hS (q_lv.st1 hl))
  | astore_n j => obtain ⟨v, r', rfl, h2⟩ := q_a_s hi; exact lv_astore_n hx hb hd rfl hl (of_decide_eq_true ht) rfl (fun ls hl => hn _ _ _ _ _ _ h2 p e s m args below meth c H locs ls cx ex r hS (q_lv.st1 hl))
  | lstore j => obtain ⟨v, r', rfl, h2⟩ := q_j_s hi; exact lv_lstore hx hb hd hl (of_decide_eq_true ht) rfl (fun ls hl => hn _ _ _ _ _ _ h2 p e s m args below meth c H locs ls cx ex r hS (q_lv.st2 hl))
  | lstore_n j => obtain ⟨v, r', rfl, h2⟩ := q_j_s hi; exact lv_lstore_n hx hb hd rfl hl (of_decide_eq_true ht) rfl (fun ls hl => hn _ _ _ _ _ _ h2 p e s m args below meth c H locs ls cx ex r hS (q_lv.st2 hl))
  | iinc j v =>
    obtain ⟨x, h1, h2⟩ := q_li_s hi
    obtain ⟨k', hk'⟩ := List.getElem?_of_mem ((q_pr_m lv 0 j (.int x)).mpr ⟨j, by omega, h1⟩)
    exact lv_iinc hx hb hd hl hk' rfl (of_decide_eq_true ht) rfl (fun ls hl => hn _ _ _ _ _ _ h2 p e s m args below meth c H locs ls cx ex r hS (q_lv.st1 hl))
  | iadd => obtain ⟨y, r1, rfl, h1⟩ := q_i_s hi; obtain ⟨x, r2, rfl, h2⟩ := q_i_s h1; exact lv_iadd hx hb hd (hn _ _ _ _ _ _ h2 p e s m args below meth c H locs ls cx ex r hS hl)
  | isub => obtain ⟨y, r1, rfl, h1⟩ := q_i_s hi; obtain ⟨x, r2, rfl, h2⟩ := q_i_s h1; exact lv_isub hx hb hd (hn _ _ _ _ _ _ h2 p e s m args below meth c H locs ls cx ex r hS hl)
  | imul => obtain ⟨y, r1, rfl, h1⟩ := q_i_s hi; obtain ⟨x, r2, rfl, h2⟩ := q_i_s h1; exact lv_imul hx hb hd (hn _ _ _ _ _ _ h2 p e s m args below meth c H locs ls cx ex r hS hl)
  | iand => obtain ⟨y, r1, rfl, h1⟩ := q_i_s hi; obtain ⟨x, r2, rfl, h2⟩ := q_i_s h1; exact lv_iand hx hb hd (hn _ _ _ _ _ _ h2 p e s m args below meth c H locs ls cx ex r hS hl)
  | ior => obtain ⟨y, r1, rfl, h1⟩ := q_i_s hi; obtain ⟨x, r2, rfl, h2⟩ := q_i_s h1; exact lv_ior hx hb hd (hn _ _ _ _ _ _ h2 p e s m args below meth c H locs ls cx ex r hS hl)
  | idiv => obtain ⟨y, r1, rfl, h1⟩ := q_i_s hi; obtain ⟨x, r2, rfl, h0, h2⟩ := q_i_s h1; exact lv_idiv hx hb hd h0 (hn _ _ _ _ _ _ h2 p e s m args below meth c H locs ls cx ex r hS hl)
  | irem => obtain ⟨y, r1, rfl, h1⟩ := q_i_s hi; obtain ⟨x, r2, rfl, h0, h2⟩ := q_i_s h1; exact lv_irem hx hb hd h0 (hn _ _ _ _ _ _ h2 p e s m args below meth c H locs ls cx ex r hS hl)
  | ineg => obtain ⟨x, r2, rfl, h2⟩ := q_i_s hi; exact lv_ineg hx hb hd (hn _ _ _ _ _ _ h2 p e s m args below meth c H locs ls cx ex r hS hl)
  | ishl => obtain ⟨y, r1, rfl, h1⟩ := q_i_s hi; obtain ⟨x, r2, rfl, h2⟩ := q_i_s h1; exact lv_ishl hx hb hd (hn _ _ _ _ _ _ h2 p e s m args below meth c H locs ls cx ex r hS hl)
  | ishr => obtain ⟨y, r1, rfl, h1⟩ := q_i_s hi; obtain ⟨x, r2, rfl, h2⟩ := q_i_s h1; exact lv_ishr hx hb hd (hn _ _ _ _ _ _ h2 p e s m args below meth c H locs ls cx ex r hS hl)
  | iushr => obtain ⟨y, r1, rfl, h1⟩ := q_i_s hi; obtain ⟨x, r2, rfl, h2⟩ := q_i_s h1; exact lv_iushr hx hb hd rfl (hn _ _ _ _ _ _ h2 p e s m args below meth c H locs ls cx ex r hS hl)
  | ladd => obtain ⟨y, r1, rfl, h1⟩ := q_j_s hi; obtain ⟨x, r2, rfl, h2⟩ := q_j_s h1; exact lv_ladd hx hb hd (hn _ _ _ _ _ _ h2 p e s m args below meth c H locs ls cx ex r hS hl)
  | lsub => obtain ⟨y, r1, rfl, h1⟩ := q_j_s hi; obtain ⟨x, r2, rfl, h2⟩ := q_j_s h1; exact lv_lsub hx hb hd (hn _ _ _ _ _ _ h2 p e s m args below meth c H locs ls cx ex r hS hl)
  | lmul => obtain ⟨y, r1, rfl, h1⟩ := q_j_s hi; obtain ⟨x, r2, rfl, h2⟩ := q_j_s h1; exact lv_lmul hx hb hd (hn _ _ _ _ _ _ h2 p e s m args below meth c H locs ls cx ex r hS hl)
  | land => obtain ⟨y, r1, rfl, h1⟩ := q_j_s hi; obtain ⟨x, r2, rfl, h2⟩ := q_j_s h1; exact lv_land hx hb hd (hn _ _ _ _ _ _ h2 p e s m args below meth c H locs ls cx ex r hS hl)
  | lor => obtain ⟨y, r1, rfl, h1⟩ := q_j_s hi; obtain ⟨x, r2, rfl, h2⟩ := q_j_s h1; exact lv_lor hx hb hd (hn _ _ _ _ _ _ h2 p e s m args below meth c H locs ls cx ex r hS hl)
  | ldiv => obtain ⟨y, r1, rfl, h1⟩ := q_j_s hi; obtain ⟨x, r2, rfl, h0, h2⟩ := q_j_s h1; exact lv_ldiv hx hb hd h0 (hn _ _ _ _ _ _ h2 p e s m args below meth c H locs ls cx ex r hS hl)
  | lrem => obtain ⟨y, r1, rfl, h1⟩ := q_j_s hi; obtain ⟨x, r2, rfl, h0, h2⟩ := q_j_s h1; exact lv_lrem hx hb hd h0 (hn _ _ _ _ _ _ h2 p e s m args below meth c H locs ls cx ex r hS hl)
  | lneg => obtain ⟨x, r2, rfl, h2⟩ := q_j_s hi; exact lv_lneg hx hb hd (hn _ _ _ _ _ _ h2 p e s m args below meth c H locs ls cx ex r hS hl)
  | lshl => obtain ⟨y, r1, rfl, h1⟩ := q_i_s hi; obtain ⟨x, r2, rfl, h2⟩ := q_j_s h1; exact lv_lshl hx hb hd rfl (hn _ _ _ _ _ _ h2 p e s m args below meth c H locs ls cx ex r hS hl)
  | lshr => obtain ⟨y, r1, rfl, h1⟩ := q_i_s hi; obtain ⟨x, r2, rfl, h2⟩ := q_j_s h1; exact lv_lshr hx hb hd rfl (hn _ _ _ _ _ _ h2 p e s m args below meth c H locs ls cx ex r hS hl)
  | lcmp => obtain ⟨y, r1, rfl, h1⟩ := q_j_s hi; obtain ⟨x, r2, rfl, h2⟩ := q_j_s h1; exact W.lcmp hx hb hd (hn _ _ _ _ _ _ h2 p e s m args below meth c H locs ls cx ex r hS hl)
  | i2l => obtain ⟨x, r2, rfl, h2⟩ := q_i_s hi; exact lv_i2l hx hb hd rfl (hn _ _ _ _ _ _ h2 p e s m args below meth c H locs ls cx ex r hS hl)
  | l2i => obtain ⟨x, r2, rfl, h2⟩ := q_j_s hi; exact lv_l2i hx hb hd rfl (hn _ _ _ _ _ _ h2 p e s m args below meth c H locs ls cx ex r hS hl)
  | i2b => obtain ⟨x, r2, rfl, h2⟩ := q_i_s hi; exact lv_i2b hx hb hd rfl (hn _ _ _ _ _ _ h2 p e s m args below meth c H locs ls cx ex r hS hl)
  | i2s => obtain ⟨x, r2, rfl, h2⟩ := q_i_s hi; exact lv_i2s hx hb hd rfl (hn _ _ _ _ _ _ h2 p e s m args below meth c H locs ls cx ex r hS hl)
  | dup => obtain ⟨x, r2, rfl, h1, h2⟩ := q_v_s hi; exact lv_dup hx hb hd h1 (hn _ _ _ _ _ _ h2 p e s m args below meth c H locs ls cx ex r hS hl)
  | dup2 => obtain ⟨x, r2, rfl, h1⟩ := q_v_s hi; obtain ⟨y, r3, rfl, h2, h3, h4⟩ := q_v_s h1; exact lv_dup2_11 hx hb hd h2 h3 (hn _ _ _ _ _ _ h4 p e s m args below meth c H locs ls cx ex r hS hl)
  | pop => obtain ⟨x, r2, rfl, h1, h2⟩ := q_v_s hi; exact lv_pop hx hb hd h1 (hn _ _ _ _ _ _ h2 p e s m args below meth c H locs ls cx ex r hS hl)
  | pop2 => obtain ⟨x, r2, rfl, h2⟩ := q_j_s hi; exact lv_pop2_2 hx hb hd rfl (hn _ _ _ _ _ _ h2 p e s m args below meth c H locs ls cx ex r hS hl)
  | goto o => exact lv_goto hx hb hd (of_decide_eq_true ht) (hK _ _ _ _ _ _ _ hi p e s m args below meth c H locs ls cx ex r hS hl)
  | ifCond cd o =>
    cases cd with
    | eq => obtain ⟨x, r2, rfl, h1, h2⟩ := q_i_s hi; exact lv_if_eq hx hb hd (of_decide_eq_true ht) (fun q => hK _ _ _ _ _ _ _ (h1 q) p e s m args below meth c H locs ls cx ex r hS hl) (fun q => hn _ _ _ _ _ _ (h2 q) p e s m args below meth c H locs ls cx ex r hS hl)
    | ne => obtain ⟨x, r2, rfl, h1, h2⟩ := q_i_s hi; exact lv_if_ne hx hb hd (of_decide_eq_true ht) (fun q => hK _ _ _ _ _ _ _ (h2 q) p e s m args below meth c H locs ls cx ex r hS hl) (fun q => hn _ _ _ _ _ _ (h1 q) p e s m args below meth c H locs ls cx ex r hS hl)
    | lt => obtain ⟨x, r2, rfl, h1, h2⟩ := q_i_s hi; exact lv_if_lt hx hb hd (of_decide_eq_true ht) (fun q => hK _ _ _ _ _ _ _ (h1 q) p e s m args below meth c H locs ls cx ex r hS hl) (fun q => hn _ _ _ _ _ _ (h2 q) p e s m args below meth c H locs ls cx ex r hS hl)
    | ge => obtain ⟨x, r2, rfl, h1, h2⟩ := q_i_s hi; exact lv_if_ge hx hb hd (of_decide_eq_true ht) (fun q => hK _ _ _ _ _ _ _ (h1 q) p e s m args below meth c H locs ls cx ex r hS hl) (fun q => hn _ _ _ _ _ _ (h2 q) p e s m args below meth c H locs ls cx ex r hS hl)
    | gt => obtain ⟨x, r2, rfl, h1, h2⟩ := q_i_s hi; exact lv_if_gt hx hb hd (of_decide_eq_true ht) (fun q => hK _ _ _ _ _ _ _ (h1 q) p e s m args below meth c H locs ls cx ex r hS hl) (fun q => hn _ _ _ _ _ _ (h2 q) p e s m args below meth c H locs ls cx ex r hS hl)
    | le => obtain ⟨x, r2, rfl, h1, h2⟩ := q_i_s hi; exact lv_if_le hx hb hd (of_decide_eq_true ht) (fun q => hK _ _ _ _ _ _ _ (h1 q) p e s m args below meth c H locs ls cx ex r hS hl) (fun q => hn _ _ _ _ _ _ (h2 q) p e s m args below meth c H locs ls cx ex r hS hl)
  | if_icmp cd o =>
    cases cd with
    | eq => obtain ⟨y, r1, rfl, h0⟩ := q_i_s hi; obtain ⟨x, r2, rfl, h1, h2⟩ := q_i_s h0; exact lv_icmp_eq hx hb hd (of_decide_eq_true ht) (fun q => hK _ _ _ _ _ _ _ (h1 q) p e s m args below meth c H locs ls cx ex r hS hl) (fun q => hn _ _ _ _ _ _ (h2 q) p e s m args below meth c H locs ls cx ex r hS hl)
    | ne => obtain ⟨y, r1, rfl, h0⟩ := q_i_s hi; obtain ⟨x, r2, rfl, h1, h2⟩ := q_i_s h0; exact lv_icmp_ne hx hb hd (of_decide_eq_true ht) (fun q => hK _ _ _ _ _ _ _ (h2 q) p e s m args below meth c H locs ls cx ex r hS hl) (fun q => hn _ _ _ _ _ _ (h1 q) p e s m args below meth c H locs ls cx ex r hS hl)
    | lt => obtain ⟨y, r1, rfl, h0⟩ := q_i_s hi; obtain ⟨x, r2, rfl, h1, h2⟩ := q_i_s h0; exact lv_icmp_lt hx hb hd (of_decide_eq_true ht) (fun q => hK _ _ _ _ _ _ _ (h1 q) p e s m args below meth c H locs ls cx ex r hS hl) (fun q => hn _ _ _ _ _ _ (h2 q) p e s m args below meth c H locs ls cx ex r hS hl)
    | ge => obtain ⟨y, r1, rfl, h0⟩ := q_i_s hi; obtain ⟨x, r2, rfl, h1, h2⟩ := q_i_s h0; exact lv_icmp_ge hx hb hd (of_decide_eq_true ht) (fun q => hK _ _ _ _ _ _ _ (h1 q) p e s m args below meth c H locs ls cx ex r hS hl) (fun q => hn _ _ _ _ _ _ (h2 q) p e s m args below meth c H locs ls cx ex r hS hl)
    | gt => obtain ⟨y, r1, rfl, h0⟩ := q_i_s hi; obtain ⟨x, r2, rfl, h1, h2⟩ := q_i_s h0; exact lv_icmp_gt hx hb hd (of_decide_eq_true ht) (fun q => hK _ _ _ _ _ _ _ (h1 q) p e s m args below meth c H locs ls cx ex r hS hl) (fun q => hn _ _ _ _ _ _ (h2 q) p e s m args below meth c H locs ls cx ex r hS hl)
    | le => obtain ⟨y, r1, rfl, h0⟩ := q_i_s hi; obtain ⟨x, r2, rfl, h1, h2⟩ := q_i_s h0; exact lv_icmp_le hx hb hd (of_decide_eq_true ht) (fun q => hK _ _ _ _ _ _ _ (h1 q) p e s m args below meth c H locs ls cx ex r hS hl) (fun q => hn _ _ _ _ _ _ (h2 q) p e s m args below meth c H locs ls cx ex r hS hl)
  | getfield j =>
    obtain ⟨⟨ci, kf, b⟩, h1, h2⟩ := q_op_s hi
    obtain ⟨a, r2, rfl, h3⟩ := q_a_s h2
    obtain ⟨fs, h4, h5⟩ := q_ob_s h3
    obtain ⟨v, h6, h7⟩ := q_nth_s h5
    obtain ⟨C, T, N, hc, hk, hl0, hl1⟩ := q_fl_ok how h1
    exact q_getf hx hb hts hTs hown hKx.1 hKx.2.1 r h4 hc hk hl0 hl1 h6 hd (hn _ _ _ _ _ _ h7 p e s m args below meth c H locs ls cx ex r hS hl)
  | putfield j => cases hfn
  | iaload =>
    obtain ⟨i, r1, rfl, h1⟩ := q_i_s hi; obtain ⟨a, r2, rfl, h2⟩ := q_a_s h1; obtain ⟨mm, g, h3, h4, h5⟩ := q_ri_s h2
    exact va_iald (D := G.1) hx hb hKx.1 (r.one h3) 0 0 rfl rfl h4 hd (hn _ _ _ _ _ _ h5 p e s m args below meth c H locs ls cx ex r hS hl)
  | iastore =>
    obtain ⟨x, r0, rfl, h0⟩ := q_i_s hi; obtain ⟨i, r1, rfl, h1⟩ := q_i_s h0; obtain ⟨a, r2, rfl, h2⟩ := q_a_s h1; obtain ⟨mm, g, h3, h4, h5⟩ := q_ri_s h2
    exact q_iast hx hb hKx.1 r hS h3 h4 hd (fun H1 locs1 r1 hS1 => hn _ _ _ _ _ _ h5 p e s m args below meth c H1 locs1 ls cx ex r1 hS1 hl)
  | baload =>
    obtain ⟨i, r1, rfl, h1⟩ := q_i_s hi; obtain ⟨a, r2, rfl, h2⟩ := q_a_s h1; obtain ⟨t, mm, g, h3, ht, h4, h5⟩ := q_rb_s h2
    rcases ht with rfl | rfl
    · exact va_bald (D := G.1) hx hb hKx.1 (r.one h3) 0 1 rfl rfl h4 hd (hn _ _ _ _ _ _ h5 p e s m args below meth c H locs ls cx ex r hS hl)
    · exact va_zald (D := G.1) hx hb hKx.1 (r.one h3) 0 3 rfl rfl h4 hd (hn _ _ _ _ _ _ h5 p e s m args below meth c H locs ls cx ex r hS hl)
  | bastore =>
    obtain ⟨x, r0, rfl, h0⟩ := q_i_s hi; obtain ⟨i, r1, rfl, h1⟩ := q_i_s h0; obtain ⟨a, r2, rfl, h2⟩ := q_a_s h1; obtain ⟨t, mm, g, h3, ht, h4, h5⟩ := q_rb_s h2
    exact q_bast hx hb hKx.1 r hS ht h3 h4 hd (fun H1 locs1 r1 hS1 => hn _ _ _ _ _ _ h5 p e s m args below meth c H1 locs1 ls cx ex r1 hS1 hl)
  | laload =>
    obtain ⟨i, r1, rfl, h1⟩ := q_i_s hi; obtain ⟨a, r2, rfl, h2⟩ := q_a_s h1; obtain ⟨mm, g, h3, h4, h5⟩ := q_rl_s h2
    exact va_lald (D := G.1) hx hb hKx.1 (r.one h3) 0 2 rfl rfl h4 hd (hn _ _ _ _ _ _ h5 p e s m args below meth c H locs ls cx ex r hS hl)
  | lastore =>
    obtain ⟨x, r0, rfl, h0⟩ := q_j_s hi; obtain ⟨i, r1, rfl, h1⟩ := q_i_s h0; obtain ⟨a, r2, rfl, h2⟩ := q_a_s h1; obtain ⟨mm, g, h3, h4, h5⟩ := q_rl_s h2
    exact q_last hx hb hKx.1 r hS h3 h4 hd (fun H1 locs1 r1 hS1 => hn _ _ _ _ _ _ h5 p e s m args below meth c H1 locs1 ls cx ex r1 hS1 hl)
  | aaload =>
    obtain ⟨i, r1, rfl, h1⟩ := q_i_s hi; obtain ⟨a, r2, rfl, h2⟩ := q_a_s h1; obtain ⟨mm, g, h3, h4, h5⟩ := q_rq_s h2
    exact va_aldq (D := G.1) (C := "FontOutlines$Part") hx hb hKx.1 (r.one h3) 0 4 rfl rfl h4 hd (hn _ _ _ _ _ _ h5 p e s m args below meth c H locs ls cx ex r hS hl)
  | aastore =>
    obtain ⟨v, r0, rfl, h0⟩ := q_a_s hi; obtain ⟨i, r1, rfl, h1⟩ := q_i_s h0; obtain ⟨a, r2, rfl, h2⟩ := q_a_s h1; obtain ⟨mm, g, h3, h4, h5⟩ := q_rq_s h2
    obtain ⟨vs, h6, h7⟩ := q_ob_s h5
    exact q_aast hx hb hKx.1 r hS h3 h6 h4 hd (fun H1 locs1 r1 hS1 => hn _ _ _ _ _ _ h7 p e s m args below meth c H1 locs1 ls cx ex r1 hS1 hl)
  | arraylength =>
    obtain ⟨a, r2, rfl, h2⟩ := q_a_s hi; obtain ⟨t, x, h3, h4, h5⟩ := q_ry_s h2
    exact va_alen (D := G.1) hx hb hKx.1 (r.one h3) 0 t rfl (q_tys_at G h4) rfl hd (hn _ _ _ _ _ _ h5 p e s m args below meth c H locs ls cx ex r hS hl)
  | new j =>
    obtain ⟨ci, h1, h2⟩ := q_op_s hi; obtain ⟨⟨C, T, N⟩, h3, h4, h5, h6⟩ := q_op_s h2
    exact q_newo hx hb hts hTs hown hKx.1 hB r hS h3 (q_cn_ok how h1 h3) h4 h5 hd (fun H1 r1 hS1 => hn _ _ _ _ _ _ h6 p e s m args below meth c H1 locs ls cx ex r1 hS1 hl)
  | newarray ty =>
    obtain ⟨kd, h1, h2⟩ := q_op_s hi; obtain ⟨x, r2, rfl, h3, h3', h4, h5, h6⟩ := q_i_s h2
    exact q_newa hx hb h1 hts hTs hKx.1 hB r hS h3 h3' h4 h5 hd (fun H1 r1 hS1 => hn _ _ _ _ _ _ h6 p e s m args below meth c H1 locs ls cx ex r1 hS1 hl)
  | invokevirtual j =>
    obtain ⟨⟨na, M', kd⟩, h1, h2, h3⟩ := q_op_s hi
    dsimp only at h2
    subst h2
    obtain ⟨bs, r2, hbs, rfl, h4⟩ := q_ags_s h3
    rw [List.append_nil] at h4
    obtain ⟨b, r3, rfl, hcat, h5⟩ := q_a_s h4
    obtain ⟨fs, h6, h7⟩ := q_ob_s h5
    obtain ⟨d', rfl, mc', ms', h8, h9, h10⟩ := q_dn_s h7
    obtain ⟨hM, hpd, ⟨w1, w2, w3, w4⟩, -⟩ := q_ml_ok how h1
    obtain ⟨m1, m2, m3, m4, m5⟩ := q_okM_s hM
    have hcw : CallW (q_rm (d' + 1) mc ms) s args y.cls (q_y M').cls j (q_y M') (q_b M') (q_ln M') (q_r M') (q_ws M') (q_rm d' mc' ms') mc' ms' na :=
      ⟨callB_of na hts (v_good hTs m1) rfl rfl rfl (tb _ w4) (tb _ w1) ⟨m5.1, m5.2, hpd⟩ ⟨Nat.le_refl _, by show 8 + (q_ln M' + 11) + 64 * d' ≤ 64 * (d' + 1); omega⟩, tb _ w2, tb _ w3⟩
    obtain ⟨rr, hrr, cell, q1, q2, q3, -⟩ := (r.2 b _ h6).2
    have hcls := (hKx.1.1 M'.1 rr hrr).2.1
    have hrc : rr.1 = (q_y M').cls := by
      have h1' : q_ow[M'.1]? = some rr.1 := by
        have : ∀ (ci : Nat) (x : vw_C), q_cl[ci]? = some x → q_ow[ci]? = some x.1 := by
          intro ci x hx
          match ci, hx with
          | 0, hx => cases hx; rfl
          | 1, hx => cases hx; rfl
          | 2, hx => cases hx; rfl
          | 3, hx => cases hx; rfl
          | 4, hx => cases hx; rfl
          | 5, hx => cases hx; rfl
          | 6, hx => cases hx; rfl
          | 7, hx => cases hx; rfl
          | 8, hx => cases hx; rfl
          | ci + 9, hx => cases hx
        exact this _ _ hrr
      exact Option.some.inj (h1'.symm.trans m2)
    refine q_after (va_runV (As := bs) (rest := r3) ⟨hx, hb, hml, hown, hts⟩ h10 hcw ⟨q_blind G h n _, ⟨cell, q1, by rw [q3]; rfl, by rw [← hrc, q2]; exact hcls⟩, q_pre hKx r hS _⟩ rfl hbs hl.1 rfl (by show 2 * 0 + _ ≤ 8; rw [q_cat_e]; omega) hd ⟨h8, h9⟩) hS (fun v h1 n1 H1 locs1 r1 hq hS1 => hn _ _ _ _ _ _ hq p e s m args below meth c H1 locs1 ls cx ex r1 hS1 hl)
  | invokespecial j =>
    unfold q_ins at hi
    dsimp only at hi
    by_cases ho : q_oi M.1 j = true
    · rw [if_pos ho] at hi
      obtain ⟨b, r3, rfl, hcat, h5⟩ := q_a_s hi
      obtain ⟨d', rfl, h6⟩ := q_dn_s h5
      exact W.objInit hx hb hown (tb _ (q_oi_ok how ho)) (tb _ q_oIn) (tb _ q_oCo) rfl (by rw [hml]; exact hl.1) rfl hd (by show 1 ≤ d' + 1; omega) (by show 2 * 0 + _ + 12 ≤ 64 * (d' + 1); rw [q_cat_e]; omega) (hn _ _ _ _ _ _ h6 p e s m args below meth c H locs ls cx ex r hS hl)
    · rw [if_neg ho] at hi
      obtain ⟨⟨na, M', kd⟩, h1, h2, h3⟩ := q_op_s hi
      dsimp only at h2
      subst h2
      obtain ⟨bs, r2, hbs, rfl, h4⟩ := q_ags_s h3
      rw [List.append_nil] at h4
      obtain ⟨b, r3, rfl, hcat, h7⟩ := q_a_s h4
      obtain ⟨d', rfl, mc', ms', h8, h9, h10⟩ := q_dn_s h7
      obtain ⟨hM, hpd, ⟨w1, w2, w3, w4⟩, hrn⟩ := q_ml_ok how h1
      obtain ⟨m1, m2, m3, m4, m5⟩ := q_okM_s hM
      have hrn := hrn rfl
      have hcb := callB_of (R := q_rm (d' + 1) mc ms) (own := y.cls) (rm := q_rm d' mc' ms') (mc := mc') (ms := ms') na hts (v_good hTs m1) rfl rfl rfl (tb _ w3) (tb _ w1) ⟨m5.1, m5.2, hpd⟩ ⟨Nat.le_refl _, by show 8 + (q_ln M' + 11) + 64 * d' ≤ 64 * (d' + 1); omega⟩
      rw [hrn] at hcb
      refine q_after (va_runI (As := bs) (rest := r3) ⟨hx, hb, hml, hown, hts⟩ h10 ⟨hcb, w4, tb _ w2⟩ ⟨q_blind G h n _, q_pre hKx r hS _⟩ rfl hbs hl.1 rfl (by show 2 * 0 + _ ≤ 8; rw [q_cat_e]; omega) hd ⟨h8, h9⟩) hS (fun v h1 n1 H1 locs1 r1 hq hS1 => hn _ _ _ _ _ _ hq p e s m args below meth c H1 locs1 ls cx ex r1 hS1 hl)
  | anewarray j =>
    obtain ⟨x, r2, rfl, h1, h3, h3', h4, h5, h6⟩ := q_i_s hi
    exact q_newq hx hb hts hTs hown (q_an_ok how h1) hKx.2.1.2 hKx.1 hB r hS h3 h3' h4 h5 hd (fun H1 r1 hS1 => hn _ _ _ _ _ _ h6 p e s m args below meth c H1 locs ls cx ex r1 hS1 hl)
  | invokestatic j =>
    unfold q_ins at hi
    dsimp only at hi
    by_cases hac : q_ac M.1 j = true
    · rw [if_pos hac] at hi
      obtain ⟨nn, r1, rfl, h1⟩ := q_i_s hi; obtain ⟨dp, r2, rfl, h2⟩ := q_i_s h1; obtain ⟨a, r3, rfl, h3⟩ := q_a_s h2; obtain ⟨sp, r4, rfl, h4⟩ := q_i_s h3; obtain ⟨a0, r5, rfl, hcat, h5⟩ := q_a_s h4
      obtain ⟨n0, f, g1, h6⟩ := q_ri_s h5; obtain ⟨n1, g, g2, k1, k2, k3, k4, k5, k6, h7⟩ := q_ri_s h6
      obtain ⟨d', rfl, h8⟩ := q_dn_s h7
      exact q_copy hx hb (by rw [hml]; exact hl.1.symm) hts hTs hown (q_ac_ok how hac) hKx.1 r hS g1 g2 k1 k2 k3 k4 k5 k6 (by show 1 ≤ d' + 1; omega) (by show _ + _ ≤ 64 * (d' + 1); rw [q_cat_e]; have := q_nfw; omega) hd (fun H1 locs1 r1 hS1 => hn _ _ _ _ _ _ h8 p e s m args below meth c H1 locs1 ls cx ex r1 hS1 hl)
    rw [if_neg hac] at hi
    cases hm : q_mm M.1 j with
    | some b =>
      rw [hm] at hi
      dsimp only at hi
      obtain ⟨y, r1, rfl, h1⟩ := q_i_s hi; obtain ⟨x, r2, rfl, hcat, hkc, hks, h2⟩ := q_i_s h1
      obtain ⟨d', rfl, h3⟩ := q_dn_s h2
      have hw := q_mm_ok how hm
      cases b with
      | true => exact va_mmax hx hb (by rw [hml]; exact hl.1.symm) hown (tb _ hw) (tb _ q_st_max) (tb _ q_in_Math) (tb _ q_co_max) (by show 1 ≤ d' + 1; omega) (by show _ + 13 ≤ 64 * (d' + 1); rw [q_cat_e]; omega) hkc hks hd (hn _ _ _ _ _ _ h3 p e s m args below meth c H locs ls cx ex r hS hl)
      | false => exact va_mmin hx hb (by rw [hml]; exact hl.1.symm) hown (tb _ hw) (tb _ q_st_min) (tb _ q_in_Math) (tb _ q_co_min) (by show 1 ≤ d' + 1; omega) (by show _ + 13 ≤ 64 * (d' + 1); rw [q_cat_e]; omega) hkc hks hd (hn _ _ _ _ _ _ h3 p e s m args below meth c H locs ls cx ex r hS hl)
    | none =>
      rw [hm] at hi
      dsimp only at hi
      obtain ⟨⟨na, M', kd⟩, h1, h2, h3⟩ := q_op_s hi
      dsimp only at h2
      subst h2
      obtain ⟨bs, r2, hbs, rfl, h4⟩ := q_ags_s h3
      rw [List.append_nil] at h4
      obtain ⟨hcat, h7⟩ := h4
      obtain ⟨d', rfl, mc', ms', h8, h9, h10⟩ := q_dn_s h7
      obtain ⟨hM, hpd, ⟨w1, w2, w3⟩, -⟩ := q_ml_ok how h1
      obtain ⟨m1, m2, m3, m4, m5⟩ := q_okM_s hM
      have hcb := callB_of (R := q_rm (d' + 1) mc ms) (own := y.cls) (rm := q_rm d' mc' ms') (mc := mc') (ms := ms') na hts (v_good hTs m1) rfl rfl rfl (tb _ w3) (tb _ w1) ⟨m5.1, m5.2, hpd⟩ ⟨Nat.le_refl _, by show 8 + (q_ln M' + 11) + 64 * d' ≤ 64 * (d' + 1); omega⟩
      refine q_after (va_runS (As := bs) (rest := r2) ⟨hx, hb, hml, hown, hts⟩ h10 ⟨hcb, tb _ w2⟩ ⟨q_blind G h n _, q_pre hKx r hS _⟩ rfl hbs hl.1 rfl (by show 2 * 0 + _ ≤ 8; rw [q_cat_e]; omega) hd ⟨h8, h9⟩) hS (fun v h1 n1 H1 locs1 r1 hq hS1 => hn _ _ _ _ _ _ hq p e s m args below meth c H1 locs1 ls cx ex r1 hS1 hl)
  | ireturn =>
    obtain ⟨x, r1, rfl, rfl, h1⟩ := q_i_s hi; obtain ⟨ty, h2, h3, h4, h5, h6⟩ := q_op_s h1
    refine W.widen h4 h5 ?_
    exact W.zret hx hb (by rw [hr]; exact h2) h3 (fun t ht hW => ⟨_, h, n, rfl, by rw [ht]; exact r, h6, hS.F ht⟩) hS.2.2 hd hlk
  | lreturn =>
    obtain ⟨x, r1, rfl, rfl, h2, h4, h5, h6⟩ := q_j_s hi
    refine W.widen h4 h5 ?_
    exact W.lret hx hb (by rw [hr]; exact h2) (fun t ht hW => ⟨_, h, n, rfl, by rw [ht]; exact r, h6, hS.F ht⟩) hS.2.2 hd hlk
  | areturn =>
    obtain ⟨x, r1, rfl, rfl, h1⟩ := q_a_s hi; obtain ⟨ty, h2, h3, h4, h5, h6⟩ := q_op_s h1
    refine W.widen h4 h5 ?_
    exact W.aret hx hb (by rw [hr]; exact h2) h3 (Or.inr ⟨x, rfl⟩) (fun t ht hW => ⟨_, h, n, rfl, by rw [ht]; exact r, h6, hS.F ht⟩) hS.2.2 hd hlk
  | return_ =>
    obtain ⟨rfl, h2, h4, h5, h6⟩ := hi
    refine W.widen h4 h5 ?_
    exact W.vret hx hb (by rw [hr]; exact h2) (fun t ht hW => ⟨_, h, n, rfl, by rw [ht]; exact r, h6, hS.F ht⟩) hS.2.2 hd hlk
  | tableswitch _ _ _ _ => cases hnt
  | _ => exact hi.elim
def v_okB (cc : ByteArray) (lnn : Nat) (e : Nat) : Nat → List (Instr × Nat × Nat) → Bool
  | pc, [] => pc == e
  | pc, (i, q, t) :: r => q == pc && (match decode cc pc with
    | .ok (j, ln) => decide (i = j) && (q_isT i || ln == q_len i) && q_tg lnn i pc t && v_np i && (q_end i || v_okB cc lnn e (pc + ln) r)
    | _ => false)
theorem v_blk_s {G : q_G} {l : Launch} {Ex : State → Code → Prop} {y : MethodName} {cc : ByteArray} {lnn : Nat} {Ts : List Cond} {M : q_MT} {d mc ms : Nat} {Q : q_P} {K : Nat → q_C} {e : Nat} (hK : ∀ t lv st h n k sl, K t lv st h n k sl → q_V G l Ex y cc lnn Ts M d mc ms Q t lv st h n k sl) :
    ∀ (b : List (Instr × Nat × Nat)) (pc : Nat), v_okB cc lnn e pc b = true → ∀ lv st h n k sl, q_blk G l M d mc ms Q K e b lv st h n k sl → q_V G l Ex y cc lnn Ts M d mc ms Q pc lv st h n k sl
  | [], pc, ok, lv, st, h, n, k, sl, hh => by
    simp only [v_okB, beq_iff_eq] at ok
    subst ok
    exact hK _ _ _ _ _ _ _ hh
  | (i, q, t) :: r, pc, ok, lv, st, h, n, k, sl, hh => by
    simp only [v_okB, Bool.and_eq_true, beq_iff_eq] at ok
    obtain ⟨rfl, ok⟩ := ok
    cases hdc : decode cc q with
    | error _ => rw [hdc] at ok; cases ok
    | ok x =>
      obtain ⟨j, ln⟩ := x
      rw [hdc] at ok
      simp only [Bool.and_eq_true, decide_eq_true_eq] at ok
      obtain ⟨⟨⟨⟨rfl, o1⟩, o2⟩, o3⟩, o4⟩ := ok
      refine v_sd ln hdc ?_ o2 o3 hK (nx := if q_end i = true then fun _ _ _ _ _ _ => False else q_blk G l M d mc ms Q K e r) ?_ lv st h n k sl ?_
      · cases hT : q_isT i with
        | true => left; cases i <;> first | exact ⟨_, _, _, _, rfl⟩ | cases hT
        | false => right; rw [hT, Bool.false_or] at o1; exact ⟨rfl, beq_iff_eq.mp o1⟩
      · intro lv st h n k sl hx
        rw [Bool.or_eq_true] at o4
        rcases o4 with o4 | o4
        · rw [if_pos o4] at hx; exact hx.elim
        · by_cases he : q_end i = true
          · rw [if_pos he] at hx; exact hx.elim
          · rw [if_neg he] at hx; exact v_blk_s hK r _ o4 lv st h n k sl hx
      · have hh : q_ins G l M d mc ms Q K i q t (q_blk G l M d mc ms Q K e r) lv st h n k sl := hh
        cases i <;> first | exact hh | skip
def v_okC (cc : ByteArray) (lnn : Nat) (B : q_B) : Bool := B.all (fun x => v_okB cc lnn x.2.2 x.1 x.2.1)
def v_go (G : q_G) (l : Launch) (Ex : State → Code → Prop) (y : MethodName) (cc : ByteArray) (lnn : Nat) (Ts : List Cond) (M : q_MT) (d mc ms : Nat) (Q : q_P) (B : q_B) (S : List Nat) : Nat → Nat → q_C
  | 0, pc => q_V G l Ex y cc lnn Ts M d mc ms Q pc
  | f + 1, pc => fun lv st h n k sl => if S.contains pc = true then q_V G l Ex y cc lnn Ts M d mc ms Q pc lv st h n k sl else q_op (q_bk B pc) fun b => q_blk G l M d mc ms Q (v_go G l Ex y cc lnn Ts M d mc ms Q B S f) b.2 b.1 lv st h n k sl
theorem v_bk_ok {cc : ByteArray} {lnn : Nat} {B : q_B} (hB : v_okC cc lnn B = true) {pc : Nat} {b : List (Instr × Nat × Nat) × Nat} (h : q_bk B pc = some b) : v_okB cc lnn b.2 pc b.1 = true := by
  unfold q_bk at h
  cases hf : B.find? (fun x => x.1 == pc) with
  | none => rw [hf] at h; cases h
  | some x =>
    rw [hf] at h
    have h1 := List.find?_some hf
    have h2 := List.mem_of_find?_eq_some hf
    simp only [beq_iff_eq] at h1
    simp only [Option.map_some, Option.some.injEq] at h
    subst h; subst h1
    exact List.all_eq_true.mp hB x h2
theorem v_go_s {G : q_G} {l : Launch} {Ex : State → Code → Prop} {y : MethodName} {cc : ByteArray} {lnn : Nat} {Ts : List Cond} {M : q_MT} {d mc ms : Nat} {Q : q_P} {B : q_B} (hB : v_okC cc lnn B = true) (S : List Nat) : ∀ (f pc : Nat) lv st h n k sl, v_go G l Ex y cc lnn Ts M d mc ms Q B S f pc lv st h n k sl → q_V G l Ex y cc lnn Ts M d mc ms Q pc lv st h n k sl
  | 0, pc, lv, st, h, n, k, sl, hh => hh
  | f + 1, pc, lv, st, h, n, k, sl, hh => by
    unfold v_go at hh
    by_cases hs : S.contains pc = true
    · rw [if_pos hs] at hh; exact hh
    · rw [if_neg hs] at hh
      obtain ⟨b, h1, h2⟩ := q_op_s hh
      exact v_blk_s (v_go_s hB S f) b.1 pc (v_bk_ok hB h1) lv st h n k sl h2
/-- from a place on, over its block, up to the places in S -/
theorem v_at {G : q_G} {l : Launch} {Ex : State → Code → Prop} {y : MethodName} {cc : ByteArray} {lnn : Nat} {Ts : List Cond} {M : q_MT} {d mc ms : Nat} {Q : q_P} {B : q_B} (hB : v_okC cc lnn B = true) (S : List Nat) (f : Nat) {pc : Nat} {b : List (Instr × Nat × Nat) × Nat} (hb : q_bk B pc = some b) {lv : q_L} {st : List Value} {h : q_H} {n k sl : Nat} (hh : q_blk G l M d mc ms Q (v_go G l Ex y cc lnn Ts M d mc ms Q B S f) b.2 b.1 lv st h n k sl) : q_V G l Ex y cc lnn Ts M d mc ms Q pc lv st h n k sl :=
  v_blk_s (v_go_s hB S f) b.1 pc (v_bk_ok hB hb) lv st h n k sl hh
