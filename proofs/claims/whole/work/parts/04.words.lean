/-! what a method's walk stands on, and what an instruction asks -/
def q_A (G : q_G) : Nat → Prop := fun q => G.2.2 ≤ q
def q_rm (d mc ms : Nat) : Room := { frames := d, cells := mc, slots := ms, locals := 64 * d }
def q_ws (M : q_MT) : List Cond := Cond.code (q_y M) (q_b M) (q_ln M) (q_r M) :: q_tbl
def q_NW (U : State) : Prop := (∀ w ∈ q_nst, va_Nw w U) ∧ va_AO "FontOutlines$Part" U
def q_Kx (G : q_G) (U : State) : Prop := va_K G.1 q_cl (q_tys G) U ∧ q_NW U ∧ G.2.2 ≤ U.heap.size
/-- the method's end: it returns v, the cells are h -/
def q_Qc (G : q_G) (Q : q_P) : Array Value → State → Outcome → State → Prop := fun _ st oc t => ∃ (v : Option Value) (h : q_H) (n : Nat), oc = .returned v ∧ q_rel G h n t.heap ∧ Q v h n ∧ va_F (q_A G) st t
def q_Call (G : q_G) (l : Launch) (M : q_MT) (d mc ms : Nat) (As : List Value) (h : q_H) (n : Nat) (Q : q_P) : Prop :=
  Met l (q_y M) (q_ws M) (q_rm d mc ms) (va_Pc As (fun U => q_rel G h n U.heap ∧ q_Kx G U)) (q_Qc G Q) mc ms (q_A G)
def q_Cx (G : q_G) (l : Launch) (M : q_MT) (p : Program) (s : State) (m : MethodId) (args : Array Value) (meth : Method) (c : Code) : Prop :=
  p.tables.exec = Jvm.exec ∧ c.code = q_b M ∧ meth.sig.returnType = q_r M ∧ c.maxLocals = q_ln M ∧ meth.locks = false ∧ s.vm.findClass (q_y M).cls = some m.cls ∧ (∀ w ∈ q_ws M, w.before args s = true) ∧ q_Kx G s ∧ meth.name = (q_y M).name ∧ q_ow[M.1]? = some (q_y M).cls
def q_Z (G : q_G) (l : Launch) (M : q_MT) (d mc ms : Nat) (Q : q_P) (pc : Nat) : q_C := fun lv st h n k sl =>
  ∀ (p : Program) (e : Env) (s : State) (m : MethodId) (args : Array Value) (below : List Frame) (meth : Method) (c : Code) (H : Heap) (locs : List Loc) (ls : Array Slot), q_Cx G l M p s m args meth c → q_rel G h n H → va_S (q_A G) s.heap H locs → q_lv ls (q_ln M) lv →
    W p l e (q_rm d mc ms) s m args below meth c H locs k sl (MQ below (q_Qc G Q) args s mc ms (q_A G)) (F0 m pc ls st)
-- the stack
def q_i (st : List Value) (f : Int32 → List Value → Prop) : Prop := match st with
  | .int x :: r => f x r
  | _ => False
def q_j (st : List Value) (f : Int64 → List Value → Prop) : Prop := match st with
  | .long x :: r => f x r
  | _ => False
def q_a (st : List Value) (f : Nat → List Value → Prop) : Prop := match st with
  | .ref x :: r => f x r
  | _ => False
def q_v (st : List Value) (f : Value → List Value → Prop) : Prop := match st with
  | x :: r => f x r
  | _ => False
/-- values popped: the last argument first -/
def q_ags : Nat → List Value → List Value → (List Value → List Value → Prop) → Prop
  | 0, as, st, f => f as st
  | n + 1, as, v :: r, f => q_ags n (v :: as) r f
  | _ + 1, _, [], _ => False
def q_cat : List Value → Nat
  | [] => 0
  | .long _ :: r => 2 + q_cat r
  | .double _ :: r => 2 + q_cat r
  | _ :: r => 1 + q_cat r
-- cells
def q_nth : List Value → Nat → (Value → Prop) → Prop
  | [], _, _ => False
  | v :: _, 0, f => f v
  | _ :: r, k + 1, f => q_nth r k f
def q_ob (h : q_H) (a ci : Nat) (f : List Value → Prop) : Prop := match h a with
  | some (.inr (c, fs)) => c = ci ∧ f fs
  | _ => False
def q_ry (h : q_H) (a : Nat) (f : Nat → vp_A → Prop) : Prop := match h a with
  | some (.inl (t, x)) => f t x
  | _ => False
/-- an array of ints, bytes or booleans -/
def q_ri (h : q_H) (a kd : Nat) (f : Nat → (Nat → Int32) → Prop) : Prop := match h a with
  | some (.inl (t, m, .inl g)) => t = kd ∧ f m g
  | _ => False
def q_rb (h : q_H) (a : Nat) (f : Nat → Nat → (Nat → Int32) → Prop) : Prop := match h a with
  | some (.inl (1, m, .inl g)) => f 1 m g
  | some (.inl (3, m, .inl g)) => f 3 m g
  | _ => False
def q_rl (h : q_H) (a : Nat) (f : Nat → (Nat → Int64) → Prop) : Prop := match h a with
  | some (.inl (2, m, .inr (.inl g))) => f m g
  | _ => False
def q_rq (h : q_H) (a : Nat) (f : Nat → (Nat → Option Nat) → Prop) : Prop := match h a with
  | some (.inl (4, m, .inr (.inr (.inr (.inr g))))) => f m g
  | _ => False
def q_fit (t : FieldType) (v : Value) : Prop := narrow t v = v ∧ fits t v = true
def q_li (lv : q_L) (i : Nat) (f : Int32 → Prop) : Prop := match q_get lv i with
  | some (.int x) => f x
  | _ => False
def q_lj (lv : q_L) (i : Nat) (f : Int64 → Prop) : Prop := match q_get lv i with
  | some (.long x) => f x
  | _ => False
def q_la (lv : q_L) (i : Nat) (f : Nat → Prop) : Prop := match q_get lv i with
  | some (.ref x) => f x
  | _ => False
def q_op {α : Type} (o : Option α) (f : α → Prop) : Prop := match o with
  | some x => f x
  | none => False
def q_br (c A B : Prop) : Prop := (c → A) ∧ (¬ c → B)
/-- a call: with d frames left for it -/
def q_dn (d : Nat) (f : Nat → Prop) : Prop := match d with
  | 0 => False
  | d + 1 => f d
/-- the first cells of an array of a kind -/
def q_new (kd : Nat) (m : Nat) : q_E := .inl (kd, m, if kd = 2 then .inr (.inl (fun _ => 0)) else if kd = 4 then .inr (.inr (.inr (.inr (fun _ => none)))) else .inl (fun _ => 0))
def q_atk : ArrayType → Option Nat
  | .int => some 0
  | .byte => some 1
  | .long => some 2
  | .boolean => some 3
  | _ => none
def q_dv : FieldType → Value
  | .int => .int 0
  | .boolean => .int 0
  | .byte => .int 0
  | .char => .int 0
  | .short => .int 0
  | .long => .long 0
  | t => defaultValue t
def q_zero (ci : Nat) : Nat → List Value
  | 0 => []
  | k + 1 => q_zero ci k ++ [q_dv (q_ty ci k)]
/-- a call, whatever room it takes: c goes on with the result on the stack -/
def q_cal (G : q_G) (l : Launch) (M : q_MT) (d mc ms k sl : Nat) (As : List Value) (h : q_H) (n : Nat) (r : List Value) (c : List Value → q_H → Nat → Nat → Nat → Prop) : Prop :=
  ∃ mc' ms' : Nat, k + mc' ≤ mc ∧ sl + ms' ≤ ms ∧ q_Call G l M d mc' ms' As h n fun v h n => c (v.toList ++ r) h n (k + mc') (sl + ms')
def q_jp (pc : Nat) (off : Int) (f : Nat → Prop) : Prop := 0 ≤ (pc : Int) + off ∧ f ((pc : Int) + off).toNat
def q_sl (pc : Nat) (x : Int32) (f : Nat → Prop) : Int → List Int → Prop
  | _, [] => True
  | j, off :: r => (x.toInt = j → q_jp pc off f) ∧ q_sl pc x f (j + 1) r
def q_ins (G : q_G) (l : Launch) (M : q_MT) (d mc ms : Nat) (Q : q_P) (K : Nat → q_C) (i : Instr) (pc t : Nat) (nx : q_C) : q_C := fun lv st h n k sl =>
  match i with
  | .iconst v => nx lv (.int (Int32.ofInt v) :: st) h n k sl
  | .bipush v => nx lv (.int (Int8.ofInt v).toInt32 :: st) h n k sl
  | .sipush v => nx lv (.int (Int16.ofInt v).toInt32 :: st) h n k sl
  | .lconst v => nx lv (.long (Int64.ofNat v.val) :: st) h n k sl
  | .ldc j => q_op (q_ki M.1 j) fun v => nx lv (.int v :: st) h n k sl
  | .ldc_w j => q_op (q_ki M.1 j) fun v => nx lv (.int v :: st) h n k sl
  | .ldc2_w j => q_op (q_kl M.1 j) fun v => nx lv (.long v :: st) h n k sl
  | .iload j => q_li lv j fun x => nx lv (.int x :: st) h n k sl
  | .iload_n j => q_li lv j.val fun x => nx lv (.int x :: st) h n k sl
  | .lload j => q_lj lv j fun x => nx lv (.long x :: st) h n k sl
  | .lload_n j => q_lj lv j.val fun x => nx lv (.long x :: st) h n k sl
  | .aload j => q_la lv j fun x => nx lv (.ref x :: st) h n k sl
  | .aload_n j => q_la lv j.val fun x => nx lv (.ref x :: st) h n k sl
  | .istore j => q_i st fun x r => nx (q_p1 lv j (.int x)) r h n k sl
  | .istore_n j => q_i st fun x r => nx (q_p1 lv j.val (.int x)) r h n k sl
  | .lstore j => q_j st fun x r => nx (q_p2 lv j (.long x)) r h n k sl
  | .lstore_n j => q_j st fun x r => nx (q_p2 lv j.val (.long x)) r h n k sl
  | .astore j => q_a st fun x r => nx (q_p1 lv j (.ref x)) r h n k sl
  | .astore_n j => q_a st fun x r => nx (q_p1 lv j.val (.ref x)) r h n k sl
  | .iinc j v => q_li lv j fun x => nx (q_p1 lv j (.int (x + Int32.ofInt v))) st h n k sl
  | .iadd => q_i st fun y r => q_i r fun x r => nx lv (.int (x + y) :: r) h n k sl
  | .isub => q_i st fun y r => q_i r fun x r => nx lv (.int (x - y) :: r) h n k sl
  | .imul => q_i st fun y r => q_i r fun x r => nx lv (.int (x * y) :: r) h n k sl
  | .iand => q_i st fun y r => q_i r fun x r => nx lv (.int (x &&& y) :: r) h n k sl
  | .ior => q_i st fun y r => q_i r fun x r => nx lv (.int (x ||| y) :: r) h n k sl
  | .idiv => q_i st fun y r => q_i r fun x r => ¬ y = 0 ∧ nx lv (.int (x / y) :: r) h n k sl
  | .irem => q_i st fun y r => q_i r fun x r => ¬ y = 0 ∧ nx lv (.int (x - x / y * y) :: r) h n k sl
  | .ineg => q_i st fun x r => nx lv (.int (-x) :: r) h n k sl
  | .ishl => q_i st fun y r => q_i r fun x r => nx lv (.int (x <<< (y &&& 31)) :: r) h n k sl
  | .ishr => q_i st fun y r => q_i r fun x r => nx lv (.int (x >>> (y &&& 31)) :: r) h n k sl
  | .iushr => q_i st fun y r => q_i r fun x r => nx lv (.int (x.toUInt32 >>> (y.toUInt32 &&& Int32.toUInt32 31)).toInt32 :: r) h n k sl
  | .ladd => q_j st fun y r => q_j r fun x r => nx lv (.long (x + y) :: r) h n k sl
  | .lsub => q_j st fun y r => q_j r fun x r => nx lv (.long (x - y) :: r) h n k sl
  | .lmul => q_j st fun y r => q_j r fun x r => nx lv (.long (x * y) :: r) h n k sl
  | .land => q_j st fun y r => q_j r fun x r => nx lv (.long (x &&& y) :: r) h n k sl
  | .lor => q_j st fun y r => q_j r fun x r => nx lv (.long (x ||| y) :: r) h n k sl
  | .ldiv => q_j st fun y r => q_j r fun x r => ¬ y = 0 ∧ nx lv (.long (x / y) :: r) h n k sl
  | .lrem => q_j st fun y r => q_j r fun x r => ¬ y = 0 ∧ nx lv (.long (x - x / y * y) :: r) h n k sl
  | .lneg => q_j st fun x r => nx lv (.long (-x) :: r) h n k sl
  | .lshl => q_i st fun y r => q_j r fun x r => nx lv (.long (x <<< (y.toInt64 &&& 63)) :: r) h n k sl
  | .lshr => q_i st fun y r => q_j r fun x r => nx lv (.long (x >>> (y.toInt64 &&& 63)) :: r) h n k sl
  | .lcmp => q_j st fun y r => q_j r fun x r => nx lv (.int (lg_cmp x y) :: r) h n k sl
  | .i2l => q_i st fun x r => nx lv (.long x.toInt64 :: r) h n k sl
  | .l2i => q_j st fun x r => nx lv (.int x.toInt32 :: r) h n k sl
  | .i2b => q_i st fun x r => nx lv (.int x.toInt8.toInt32 :: r) h n k sl
  | .i2s => q_i st fun x r => nx lv (.int x.toInt16.toInt32 :: r) h n k sl
  | .dup => q_v st fun v r => v.category = 1 ∧ nx lv (v :: v :: r) h n k sl
  | .dup2 => q_v st fun v r => q_v r fun w r => v.category = 1 ∧ w.category = 1 ∧ nx lv (v :: w :: v :: w :: r) h n k sl
  | .pop => q_v st fun v r => v.category = 1 ∧ nx lv r h n k sl
  | .pop2 => q_j st fun _ r => nx lv r h n k sl
  | .goto _ => K t lv st h n k sl
  | .ifCond .eq _ => q_i st fun x r => q_br (x = 0) (K t lv r h n k sl) (nx lv r h n k sl)
  | .ifCond .ne _ => q_i st fun x r => q_br (x = 0) (nx lv r h n k sl) (K t lv r h n k sl)
  | .ifCond .lt _ => q_i st fun x r => q_br (x < 0) (K t lv r h n k sl) (nx lv r h n k sl)
  | .ifCond .ge _ => q_i st fun x r => q_br (0 ≤ x) (K t lv r h n k sl) (nx lv r h n k sl)
  | .ifCond .gt _ => q_i st fun x r => q_br (0 < x) (K t lv r h n k sl) (nx lv r h n k sl)
  | .ifCond .le _ => q_i st fun x r => q_br (x ≤ 0) (K t lv r h n k sl) (nx lv r h n k sl)
  | .if_icmp .eq _ => q_i st fun y r => q_i r fun x r => q_br (x = y) (K t lv r h n k sl) (nx lv r h n k sl)
  | .if_icmp .ne _ => q_i st fun y r => q_i r fun x r => q_br (x = y) (nx lv r h n k sl) (K t lv r h n k sl)
  | .if_icmp .lt _ => q_i st fun y r => q_i r fun x r => q_br (x < y) (K t lv r h n k sl) (nx lv r h n k sl)
  | .if_icmp .ge _ => q_i st fun y r => q_i r fun x r => q_br (y ≤ x) (K t lv r h n k sl) (nx lv r h n k sl)
  | .if_icmp .gt _ => q_i st fun y r => q_i r fun x r => q_br (y < x) (K t lv r h n k sl) (nx lv r h n k sl)
  | .if_icmp .le _ => q_i st fun y r => q_i r fun x r => q_br (x ≤ y) (K t lv r h n k sl) (nx lv r h n k sl)
  | .getfield j => q_op (q_fl M.1 j) fun f => q_a st fun a r => q_ob h a f.1 fun fs => q_nth fs f.2.1 fun v => nx lv (v :: r) h n k sl
  | .putfield j => q_op (q_fl M.1 j) fun f => q_v st fun v r => q_a r fun a r => q_ob h a f.1 fun fs => f.2.1 < fs.length ∧ q_fit (q_ty f.1 f.2.1) v ∧ nx lv r (q_set h a (.inr (f.1, fs.set f.2.1 v))) n k sl
  | .iaload => q_i st fun i r => q_a r fun a r => q_ri h a 0 fun m g => vp_in i m ∧ nx lv (.int (g i.toNatClampNeg) :: r) h n k sl
  | .iastore => q_i st fun x r => q_i r fun i r => q_a r fun a r => q_ri h a 0 fun m g => vp_in i m ∧ nx lv r (q_set h a (.inl (0, m, .inl (upd g i.toNatClampNeg x)))) n k sl
  | .baload => q_i st fun i r => q_a r fun a r => q_rb h a fun _ m g => vp_in i m ∧ nx lv (.int (g i.toNatClampNeg) :: r) h n k sl
  | .bastore => q_i st fun x r => q_i r fun i r => q_a r fun a r => q_rb h a fun t m g => vp_in i m ∧ nx lv r (q_set h a (.inl (t, m, .inl (upd g i.toNatClampNeg (vp_nar (q_kind t) x))))) n k sl
  | .laload => q_i st fun i r => q_a r fun a r => q_rl h a fun m g => vp_in i m ∧ nx lv (.long (g i.toNatClampNeg) :: r) h n k sl
  | .lastore => q_j st fun x r => q_i r fun i r => q_a r fun a r => q_rl h a fun m g => vp_in i m ∧ nx lv r (q_set h a (.inl (2, m, .inr (.inl (vp_updL g i.toNatClampNeg x))))) n k sl
  | .aaload => q_i st fun i r => q_a r fun a r => q_rq h a fun m g => vp_in i m ∧ nx lv (va_rf (g i.toNatClampNeg) :: r) h n k sl
  | .aastore => q_a st fun v r => q_i r fun i r => q_a r fun a r => q_rq h a fun m g => vp_in i m ∧ q_ob h v 5 fun _ => nx lv r (q_set h a (.inl (4, m, .inr (.inr (.inr (.inr (va_up g i.toNatClampNeg (some v)))))))) n k sl
  | .arraylength => q_a st fun a r => q_ry h a fun t x => t < 5 ∧ nx lv (.int (Int32.ofNat x.1) :: r) h n k sl
  | .new j => q_op (q_cn M.1 j) fun ci => q_op (q_cl[ci]?) fun C => k + 1 ≤ mc ∧ sl + C.2.2 ≤ ms ∧ nx lv (.ref n :: st) (q_set h n (.inr (ci, q_zero ci C.2.2))) (n + 1) (k + 1) (sl + C.2.2)
  | .newarray ty => q_op (q_atk ty) fun kd => q_i st fun x r => ¬ x < 0 ∧ x.toNatClampNeg ≤ 1000000 ∧ k + 1 ≤ mc ∧ sl + x.toNatClampNeg ≤ ms ∧ nx lv (.ref n :: r) (q_set h n (q_new kd x.toNatClampNeg)) (n + 1) (k + 1) (sl + x.toNatClampNeg)
  | .invokevirtual j => q_op (q_ml M.1 j) fun y => y.2.2 = 0 ∧ q_ags y.1 [] st fun As r => q_a r fun b r => q_cat r ≤ 8 ∧ q_ob h b y.2.1.1 fun _ => q_dn d fun d' => q_cal G l y.2.1 d' mc ms k sl (.ref b :: As) h n r (nx lv)
  | .invokespecial j => if q_oi M.1 j = true then q_a st fun _ r => q_cat r ≤ 8 ∧ q_dn d fun _ => nx lv r h n k sl
      else q_op (q_ml M.1 j) fun y => y.2.2 = 1 ∧ q_ags y.1 [] st fun As r => q_a r fun b r => q_cat r ≤ 8 ∧ q_dn d fun d' => q_cal G l y.2.1 d' mc ms k sl (.ref b :: As) h n r (nx lv)
  | .anewarray j => q_i st fun x r => q_an M.1 j = true ∧ ¬ x < 0 ∧ x.toNatClampNeg ≤ 1000000 ∧ k + 1 ≤ mc ∧ sl + x.toNatClampNeg ≤ ms ∧ nx lv (.ref n :: r) (q_set h n (q_new 4 x.toNatClampNeg)) (n + 1) (k + 1) (sl + x.toNatClampNeg)
  | .tableswitch df lo hi offs => q_i st fun x r => (x.toInt < lo ∨ hi < x.toInt → q_jp pc df fun t => K t lv r h n k sl) ∧ q_sl pc x (fun t => K t lv r h n k sl) lo offs.toList ∧ (offs.size : Int) = hi - lo + 1
  | .invokestatic j => if q_ac M.1 j = true then
      q_i st fun nn r => q_i r fun dp r => q_a r fun a r => q_i r fun sp r => q_a r fun a0 r => q_cat r ≤ 8 ∧ q_ri h a0 1 fun n0 f => q_ri h a 1 fun n1 g => ¬ sp < 0 ∧ ¬ dp < 0 ∧ ¬ nn < 0 ∧ sp.toNatClampNeg + nn.toNatClampNeg ≤ n0 ∧ dp.toNatClampNeg + nn.toNatClampNeg ≤ n1 ∧ (∀ i, i < nn.toNatClampNeg → fits .byte (.int (f (sp.toNatClampNeg + i))) = true) ∧ q_dn d fun _ => nx lv r (q_set h a (.inl (1, n1, .inl (va_cpy f g sp.toNatClampNeg dp.toNatClampNeg nn.toNatClampNeg)))) n k sl
    else match q_mm M.1 j with
    | some b => q_i st fun y r => q_i r fun x r => q_cat r ≤ 8 ∧ k ≤ mc ∧ sl ≤ ms ∧ q_dn d fun _ => nx lv (.int (if b = true then (if x < y then y else x) else (if y < x then y else x)) :: r) h n k sl
    | none => q_op (q_ml M.1 j) fun y => y.2.2 = 2 ∧ q_ags y.1 [] st fun As r => q_cat r ≤ 8 ∧ q_dn d fun d' => q_cal G l y.2.1 d' mc ms k sl As h n r (nx lv)
  | .ireturn => q_i st fun x r => r = [] ∧ q_op (q_r M) fun ty => narrow ty (.int x) = .int x ∧ k ≤ mc ∧ sl ≤ ms ∧ Q (some (.int x)) h n
  | .lreturn => q_j st fun x r => r = [] ∧ q_r M = some .long ∧ k ≤ mc ∧ sl ≤ ms ∧ Q (some (.long x)) h n
  | .areturn => q_a st fun x r => r = [] ∧ q_op (q_r M) fun ty => ((∃ n, ty = .object n) ∨ ∃ t, ty = .array t) ∧ k ≤ mc ∧ sl ≤ ms ∧ Q (some (.ref x)) h n
  | .return_ => st = [] ∧ q_r M = none ∧ k ≤ mc ∧ sl ≤ ms ∧ Q none h n
  | _ => False
