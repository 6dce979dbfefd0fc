/-! rewriting rows for walks -/
section Q9
variable {G : q_G} {l : Launch} {M : q_MT} {d mc ms : Nat} {Q : q_P} {B : q_B} {S : List Nat} {K : Nat → q_C} {lv : q_L} {st r : List Value} {h : q_H} {n k sl : Nat}
theorem s_go {f pc : Nat} : q_go G l M d mc ms Q B S (f + 1) pc lv st h n k sl = if S.contains pc = true then q_Z G l M d mc ms Q pc lv st h n k sl else q_op (q_bk B pc) fun b => q_blk G l M d mc ms Q (q_go G l M d mc ms Q B S f) b.2 b.1 lv st h n k sl := rfl
theorem s_nil {e : Nat} : q_blk G l M d mc ms Q K e [] lv st h n k sl = K e lv st h n k sl := rfl
theorem s_cons {e : Nat} {i : Instr} {pc t : Nat} {b : List (Instr × Nat × Nat)} : q_blk G l M d mc ms Q K e ((i, pc, t) :: b) lv st h n k sl = q_ins G l M d mc ms Q K i pc t (q_blk G l M d mc ms Q K e b) lv st h n k sl := rfl
theorem q_c0 {M' : q_MT} {As : List Value} {c : List Value → q_H → Nat → Nat → Nat → Prop} (h1 : k ≤ mc) (h2 : sl ≤ ms) (hc : q_Call G l M' d 0 0 As h n fun v h n => c (v.toList ++ r) h n k sl) : q_cal G l M' d mc ms k sl As h n r c := ⟨0, 0, h1, h2, hc⟩
theorem q_c1 {M' : q_MT} {As : List Value} {c : List Value → q_H → Nat → Nat → Nat → Prop} (mc' ms' : Nat) (h1 : k + mc' ≤ mc) (h2 : sl + ms' ≤ ms) (hc : q_Call G l M' d mc' ms' As h n fun v h n => c (v.toList ++ r) h n (k + mc') (sl + ms')) : q_cal G l M' d mc ms k sl As h n r c := ⟨mc', ms', h1, h2, hc⟩
theorem s_i {x : Int32} {f : Int32 → List Value → Prop} : q_i (.int x :: r) f = f x r := rfl
theorem s_j {x : Int64} {f : Int64 → List Value → Prop} : q_j (.long x :: r) f = f x r := rfl
theorem s_a {x : Nat} {f : Nat → List Value → Prop} : q_a (.ref x :: r) f = f x r := rfl
theorem s_v {x : Value} {f : Value → List Value → Prop} : q_v (x :: r) f = f x r := rfl
theorem s_op {α : Type} {x : α} {f : α → Prop} : q_op (some x) f = f x := rfl
def q_liO (o : Option Value) (f : Int32 → Prop) : Prop := match o with
  | some (.int x) => f x
  | _ => False
def q_ljO (o : Option Value) (f : Int64 → Prop) : Prop := match o with
  | some (.long x) => f x
  | _ => False
def q_laO (o : Option Value) (f : Nat → Prop) : Prop := match o with
  | some (.ref x) => f x
  | _ => False
theorem s_li {i : Nat} {f : Int32 → Prop} : q_li lv i f = q_liO (q_get lv i) f := rfl
theorem s_lj {i : Nat} {f : Int64 → Prop} : q_lj lv i f = q_ljO (q_get lv i) f := rfl
theorem s_la {i : Nat} {f : Nat → Prop} : q_la lv i f = q_laO (q_get lv i) f := rfl
theorem s_liO {x : Int32} {f : Int32 → Prop} : q_liO (some (.int x)) f = f x := rfl
theorem s_ljO {x : Int64} {f : Int64 → Prop} : q_ljO (some (.long x)) f = f x := rfl
theorem s_laO {x : Nat} {f : Nat → Prop} : q_laO (some (.ref x)) f = f x := rfl
theorem s_n2i {x : Int32} : q_n2 (some (.int x)) = some (.int x) := rfl
theorem s_n2r {x : Nat} : q_n2 (some (.ref x)) = some (.ref x) := rfl
theorem s_n2l {x : Int64} : q_n2 (some (.long x)) = none := rfl
theorem s_n2n : q_n2 none = none := rfl
def q_obO (o : Option q_E) (ci : Nat) (f : List Value → Prop) : Prop := match o with
  | some (.inr (c, fs)) => c = ci ∧ f fs
  | _ => False
theorem s_ob {a ci : Nat} {f : List Value → Prop} : q_ob h a ci f = q_obO (h a) ci f := rfl
theorem s_obO {ci : Nat} {fs : List Value} {f : List Value → Prop} : q_obO (some (.inr (ci, fs))) ci f = f fs := by simp [q_obO]
def q_riO (o : Option q_E) (kd : Nat) (f : Nat → (Nat → Int32) → Prop) : Prop := match o with
  | some (.inl (t, m, .inl g)) => t = kd ∧ f m g
  | _ => False
theorem s_ri {a kd : Nat} {f : Nat → (Nat → Int32) → Prop} : q_ri h a kd f = q_riO (h a) kd f := rfl
theorem s_riO {kd m : Nat} {g : Nat → Int32} {f : Nat → (Nat → Int32) → Prop} : q_riO (some (.inl (kd, m, .inl g))) kd f = f m g := by simp [q_riO]
def q_rbO (o : Option q_E) (f : Nat → Nat → (Nat → Int32) → Prop) : Prop := match o with
  | some (.inl (1, m, .inl g)) => f 1 m g
  | some (.inl (3, m, .inl g)) => f 3 m g
  | _ => False
theorem s_rb {a : Nat} {f : Nat → Nat → (Nat → Int32) → Prop} : q_rb h a f = q_rbO (h a) f := rfl
theorem s_rbO {m : Nat} {g : Nat → Int32} {f : Nat → Nat → (Nat → Int32) → Prop} : q_rbO (some (.inl (1, m, .inl g))) f = f 1 m g := rfl
theorem s_rzO {m : Nat} {g : Nat → Int32} {f : Nat → Nat → (Nat → Int32) → Prop} : q_rbO (some (.inl (3, m, .inl g))) f = f 3 m g := rfl
def q_rlO (o : Option q_E) (f : Nat → (Nat → Int64) → Prop) : Prop := match o with
  | some (.inl (2, m, .inr (.inl g))) => f m g
  | _ => False
theorem s_rl {a : Nat} {f : Nat → (Nat → Int64) → Prop} : q_rl h a f = q_rlO (h a) f := rfl
theorem s_rlO {m : Nat} {g : Nat → Int64} {f : Nat → (Nat → Int64) → Prop} : q_rlO (some (.inl (2, m, .inr (.inl g)))) f = f m g := rfl
def q_rqO (o : Option q_E) (f : Nat → (Nat → Option Nat) → Prop) : Prop := match o with
  | some (.inl (4, m, .inr (.inr (.inr (.inr g))))) => f m g
  | _ => False
theorem s_rq {a : Nat} {f : Nat → (Nat → Option Nat) → Prop} : q_rq h a f = q_rqO (h a) f := rfl
theorem s_rqO {m : Nat} {g : Nat → Option Nat} {f : Nat → (Nat → Option Nat) → Prop} : q_rqO (some (.inl (4, m, .inr (.inr (.inr (.inr g)))))) f = f m g := rfl
def q_ryO (o : Option q_E) (f : Nat → vp_A → Prop) : Prop := match o with
  | some (.inl (t, x)) => f t x
  | _ => False
theorem s_ry {a : Nat} {f : Nat → vp_A → Prop} : q_ry h a f = q_ryO (h a) f := rfl
theorem s_ryO {t : Nat} {x : vp_A} {f : Nat → vp_A → Prop} : q_ryO (some (.inl (t, x))) f = f t x := rfl
theorem s_brT {A B : Prop} : q_br True A B = A := propext ⟨fun h => h.1 trivial, fun h => ⟨fun _ => h, fun q => absurd trivial q⟩⟩
theorem s_brF {A B : Prop} : q_br False A B = B := propext ⟨fun h => h.2 id, fun h => ⟨fun q => q.elim, fun _ => h⟩⟩
theorem s_10 : ((1 : Int32) = 0) = False := eq_false (by decide)
theorem s_dn {f : Nat → Prop} : q_dn (d + 1) f = f d := rfl
theorem s_set (h : q_H) (a : Nat) (e : q_E) : q_set h a e a = some e := by simp [q_set]
theorem s_ne (h : q_H) {a b : Nat} (e : q_E) (hn : b ≠ a) : q_set h a e b = h b := by simp [q_set, hn]
theorem s_fi (x : Int32) : (q_fit .int (.int x)) = True := eq_true ⟨rfl, rfl⟩
theorem s_fl (x : Int64) : (q_fit .long (.long x)) = True := eq_true ⟨rfl, rfl⟩
theorem s_fo (c : String) (x : Nat) : (q_fit (.object c) (.ref x)) = True := eq_true ⟨rfl, rfl⟩
theorem s_fa (c : FieldType) (x : Nat) : (q_fit (.array c) (.ref x)) = True := eq_true ⟨rfl, rfl⟩
theorem s_f0 : (q_fit .boolean (.int 0)) = True := eq_true ⟨rfl, rfl⟩
theorem s_f1 : (q_fit .boolean (.int 1)) = True := eq_true ⟨rfl, rfl⟩
theorem s_ni (x : Int32) : (narrow .int (.int x) = .int x) = True := eq_true rfl
theorem s_n0 : (narrow .boolean (.int 0) = .int 0) = True := eq_true rfl
theorem s_n1 : (narrow .boolean (.int 1) = .int 1) = True := eq_true rfl
theorem s_ci (x : Int32) : (Value.int x).category = 1 := rfl
theorem s_cr (x : Nat) : (Value.ref x).category = 1 := rfl
theorem s_tl (v : Value) : (some v).toList = [v] := rfl
theorem s_tn : (none : Option Value).toList = [] := rfl
theorem s_ap (v : Value) : [v] ++ r = v :: r := rfl
theorem s_an : ([] : List Value) ++ r = r := rfl
theorem s_ss (h : q_H) (a : Nat) (e e' : q_E) : q_set (q_set h a e) a e' = q_set h a e' := by
  funext b
  unfold q_set
  by_cases hb : b = a <;> simp [hb]
theorem s_sw (h : q_H) {a b : Nat} (e e' : q_E) (hn : a ≠ b) : q_set (q_set h a e) b e' = q_set (q_set h b e') a e := by
  funext c
  unfold q_set
  by_cases h1 : c = a
  · by_cases h2 : c = b
    · exact absurd (h1.symm.trans h2) hn
    · simp [h1, h2, hn]
  · simp [h1]
theorem s_id (h : q_H) {a : Nat} {e : q_E} (he : h a = some e) : q_set h a e = h := by
  funext c
  unfold q_set
  by_cases h1 : c = a
  · simp [h1, he]
  · simp [h1]
end Q9
