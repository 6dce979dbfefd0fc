/-! what my machine says holds of the real one -/
section Q6
variable {p : Program} {l : Launch} {e : Env} {R : Room} {s : State} {m : MethodId} {args : Array Value} {below : List Frame} {meth : Method} {c : Code} {H : Heap} {locs : List Loc} {cells slots : Nat} {Q : State → Prop}
variable {cc : ByteArray} {pc : Nat} {ls : Array Slot} {rest : List Value} {G : q_G} {h : q_H} {n a : Nat} {H0 : Heap}
theorem q_rel.one (r : q_rel G h n H) {x : q_E} (ha : h a = some x) : va_P G.1 q_cl [(a, q_e G x)] H := by
  intro k q hk
  cases k with
  | zero => cases hk; exact (r.2 a x ha).2
  | succ k => simp at hk
theorem q_tys_at (G : q_G) {t : Nat} (ht : t < 5) : (q_tys G)[t]? = some (G.2.1 t, q_kind t) := by
  match t, ht with
  | 0, _ => rfl
  | 1, _ => rfl
  | 2, _ => rfl
  | 3, _ => rfl
  | 4, _ => rfl
/-- a field is written: the cell, the size, the rest -/
theorem q_put (hexec : p.tables.exec = Jvm.exec) (hb : c.code = cc) {own C : String} {T : u_T} {N ci index : Nat} {Ts : List Cond} (hts : ∀ w ∈ Ts, w.before args s = true) (hTs : ∀ w ∈ q_tbl, w ∈ Ts) (hown : s.vm.findClass own = some m.cls) (hK : va_K G.1 q_cl (q_tys G) s) (hNW : q_NW s) (r : q_rel G h n H) (hS : va_S (q_A G) H0 H locs) {fs : List Value} (ha : h a = some (.inr (ci, fs))) (hc : q_cl[ci]? = some (C, T, N)) {k : Nat} (hk : k < N) {b : Bool}
    (hl0 : b = false → Cond.fieldLink own index C (T k).2.1 (T k).2.2.1 ∈ q_tbl) (hl1 : b = true → Cond.fieldLinkNest own index C (T k).2.1 (T k).2.2.1 "FontOutlines" ∈ q_nst) (hfin : (T k).2.2.2 = true → b = false ∧ meth.name = "<init>" ∧ own = C) {v : Value} (hv : q_fit (q_ty ci k) v) (hl : k < fs.length) (hdg : decode cc pc = .ok (.putfield index, 3))
    (kk : ∀ (H1 : Heap) (locs1 : List Loc), q_rel G (q_set h a (.inr (ci, fs.set k v))) n H1 → va_S (q_A G) H0 H1 locs1 → W p l e R s m args below meth c H1 locs1 cells slots Q (F0 m (pc + 3) ls rest)) : W p l e R s m args below meth c H locs cells slots Q (F0 m pc ls (v :: .ref a :: rest)) := by
  obtain ⟨hin0, hty, hnm, hdc⟩ := q_cok ci C T N hc
  have hin : ∀ w ∈ u_ws C T N, w ∈ Ts := fun w hw => hTs w (hin0 w hw)
  have hap := va_apart (own := own) hts hin (q_ty ci) hty hnm hK hc
  have hA : q_A G a := (r.2 a _ ha).1
  obtain ⟨rr, h1, cell, q1, q2, q3, q4⟩ := (r.2 a _ ha).2
  have hr : rr = (C, T, N) := Option.some.inj (h1.symm.trans hc)
  subst hr
  obtain ⟨hSl, hfc, kC, hkC, hkind⟩ := hK.1 ci _ hc
  obtain ⟨cf, kf, fi, f, hi, hsl⟩ := hSl k hk
  have hi2 : s.fieldFound? C (T k).2.1 (T k).2.2.1 = some (cf, kf, fi, f) := by rw [← hdc k hk]; exact hi
  have hst := (u_facts hfc hkC (u_lays hts hin hk) hi).1
  have hlt : f.slot < cell.slots.size := by rw [hsl]; exact k2_hasslot (q4 k hk)
  have fin : ∀ H' : Heap, H'[a]? = some (cell.setSlot f.slot v) → H'.size = H.size → (∀ q, q ≠ a → H'[q]? = H[q]?) → W p l e R s m args below meth c H' (locs ++ [⟨a, f.slot⟩]) cells slots Q (F0 m (pc + 3) ls rest) := by
    intro H' e1 e2 e3
    refine kk H' _ (r.upd ha ?_ e2 e3) (hS.put e2 e3 hA)
    rw [hsl] at e1
    exact ⟨_, hc, t_OB.to (V := updV (vp_V fs) k v) ⟨_, e1, q2, q3, t_set q4 hap hk v⟩ (fun j _ => vp_updV_set hl v j)⟩
  have hlay := hts _ (hin _ (u_in_lay hk))
  unfold u_lay at hlay
  by_cases hf : (T k).2.2.2 = true
  · obtain ⟨hb0, hinit, hoC⟩ := hfin hf
    rw [if_pos hf] at hlay
    have hcf : m.cls = cf := by
      obtain ⟨_, _, c', _, _, _, -, -, hf', -, -, -, hown2, -⟩ := Cond.laysFinal_spec hlay
      have e1 : c' = cf := by have := hi.symm.trans hf'; simp at this; exact this.1.symm
      rw [hdc k hk, ← hoC] at hown2
      rw [← e1]; exact Option.some.inj (hown.symm.trans hown2)
    have h6 := u_fits hfc hkC hkind (Or.inr hlay) hi (hty k hk) hv.1 hv.2
    exact W.putFinK hexec hb hown (hts _ (hTs _ (hl0 hb0))) hi2 hst hcf hinit (by rw [q2]; exact h6) q1 q3 hlt rfl rfl hdg fin
  · rw [if_neg hf] at hlay
    have h6 := u_store hfc hkC hkind hlay hi (hty k hk) hv.1 hv.2
    cases hbb : b with
    | false => exact W.putK hexec hb (f := f) ⟨hown, hts _ (hTs _ (hl0 hbb)), ⟨_, _, _, hi2⟩, hst⟩ (by rw [q2]; exact h6) q1 q3 hlt rfl rfl hdg fin
    | true => exact va_WputK hexec hb (f := f) hown (va_Nw.use rfl (hNW.1 _ (hl1 hbb))) hi2 hst (by rw [q2]; exact h6) q1 q3 hlt rfl rfl hdg fin
theorem q_getf (hexec : p.tables.exec = Jvm.exec) (hb : c.code = cc) {own C : String} {T : u_T} {N ci index : Nat} {Ts : List Cond} (hts : ∀ w ∈ Ts, w.before args s = true) (hTs : ∀ w ∈ q_tbl, w ∈ Ts) (hown : s.vm.findClass own = some m.cls) (hK : va_K G.1 q_cl (q_tys G) s) (hNW : q_NW s) (r : q_rel G h n H) {fs : List Value} (ha : h a = some (.inr (ci, fs))) (hc : q_cl[ci]? = some (C, T, N)) {k : Nat} (hk : k < N) {b : Bool}
    (hl0 : b = false → Cond.fieldLink own index C (T k).2.1 (T k).2.2.1 ∈ q_tbl) (hl1 : b = true → Cond.fieldLinkNest own index C (T k).2.1 (T k).2.2.1 "FontOutlines" ∈ q_nst) {v : Value} (hv : fs[k]? = some v) (hdg : decode cc pc = .ok (.getfield index, 3))
    (kk : W p l e R s m args below meth c H locs cells slots Q (F0 m (pc + 3) ls (v :: rest))) : W p l e R s m args below meth c H locs cells slots Q (F0 m pc ls (.ref a :: rest)) := by
  obtain ⟨hin0, hty, hnm, hdc⟩ := q_cok ci C T N hc
  have hin : ∀ w ∈ u_ws C T N, w ∈ Ts := fun w hw => hTs w (hin0 w hw)
  cases hbb : b with
  | false => exact va_get (D := G.1) hexec hb hts hin hown hK (r.one ha) 0 rfl hc k hk (hts _ (hTs _ (hl0 hbb))) (fun x hx => by rw [← hdc k hk]; exact hx) hv hdg kk
  | true => exact va_getN (D := G.1) hexec hb hts hin hown hK (r.one ha) 0 rfl hc k hk (va_Nw.use rfl (hNW.1 _ (hl1 hbb))) (fun x hx => by rw [← hdc k hk]; exact hx) hv hdg kk
theorem q_cellI {t : Nat} {cA : ClassId} {mm : Nat} {g : Nat → Int32} {j : Nat} {x : Int32} (H1 : Heap) (e1 : H1[a]? = some ((vp_cell cA (mm, .inl g)).setSlot j (.int x))) : H1[a]? = some (vp_cell cA (mm, .inl (upd g j x))) := by
  rw [e1, vp_cell_i, vp_cell_i, arrV_store]
  congr 2
  funext q
  by_cases hq : q = j
  · subst hq; simp [updV, upd]
  · simp [updV, upd, hq]
theorem q_iast (hexec : p.tables.exec = Jvm.exec) (hb : c.code = cc) (hK : va_K G.1 q_cl (q_tys G) s) (r : q_rel G h n H) (hS : va_S (q_A G) H0 H locs) {mm : Nat} {g : Nat → Int32} (ha : h a = some (.inl (0, mm, .inl g))) {i x : Int32} (hin : vp_in i mm) (hdg : decode cc pc = .ok (.iastore, 1))
    (kk : ∀ (H1 : Heap) (locs1 : List Loc), q_rel G (q_set h a (.inl (0, mm, .inl (upd g i.toNatClampNeg x)))) n H1 → va_S (q_A G) H0 H1 locs1 → W p l e R s m args below meth c H1 locs1 cells slots Q (F0 m (pc + 1) ls rest)) : W p l e R s m args below meth c H locs cells slots Q (F0 m pc ls (.int x :: .int i :: .ref a :: rest)) := by
  have hat := (r.2 a _ ha).2
  refine W.iast hexec hb hat ((hK.2 0 _ rfl).1 mm (fun j => .int (g j))) (fun q => by cases q) (by show ¬ (i < 0 ∨ (arrV _ _ _).slots.size ≤ _); rw [arrV_size]; exact hin) rfl rfl hdg fun H1 e1 z oq => ?_
  exact kk H1 _ (r.upd ha (q_cellI (t := 0) H1 e1) z oq) (hS.put z oq (r.2 a _ ha).1)
theorem q_bast (hexec : p.tables.exec = Jvm.exec) (hb : c.code = cc) (hK : va_K G.1 q_cl (q_tys G) s) (r : q_rel G h n H) (hS : va_S (q_A G) H0 H locs) {t mm : Nat} (ht : t = 1 ∨ t = 3) {g : Nat → Int32} (ha : h a = some (.inl (t, mm, .inl g))) {i x : Int32} (hin : vp_in i mm) (hdg : decode cc pc = .ok (.bastore, 1))
    (kk : ∀ (H1 : Heap) (locs1 : List Loc), q_rel G (q_set h a (.inl (t, mm, .inl (upd g i.toNatClampNeg (vp_nar (q_kind t) x))))) n H1 → va_S (q_A G) H0 H1 locs1 → W p l e R s m args below meth c H1 locs1 cells slots Q (F0 m (pc + 1) ls rest)) : W p l e R s m args below meth c H locs cells slots Q (F0 m pc ls (.int x :: .int i :: .ref a :: rest)) := by
  have hat := (r.2 a _ ha).2
  rcases ht with rfl | rfl
  · refine W.bast hexec hb hat ((hK.2 1 _ rfl).1 mm (fun j => .int (g j))) (fun q => by cases q) (by show ¬ (i < 0 ∨ (arrV _ _ _).slots.size ≤ _); rw [arrV_size]; exact hin) rfl rfl hdg fun H1 e1 z oq => ?_
    exact kk H1 _ (r.upd ha (q_cellI (t := 1) H1 e1) z oq) (hS.put z oq (r.2 a _ ha).1)
  · refine W.zast hexec hb hat ((hK.2 3 _ rfl).1 mm (fun j => .int (g j))) (fun q => by cases q) (by show ¬ (i < 0 ∨ (arrV _ _ _).slots.size ≤ _); rw [arrV_size]; exact hin) rfl rfl hdg fun H1 e1 z oq => ?_
    exact kk H1 _ (r.upd ha (q_cellI (t := 3) H1 e1) z oq) (hS.put z oq (r.2 a _ ha).1)
theorem q_last (hexec : p.tables.exec = Jvm.exec) (hb : c.code = cc) (hK : va_K G.1 q_cl (q_tys G) s) (r : q_rel G h n H) (hS : va_S (q_A G) H0 H locs) {mm : Nat} {g : Nat → Int64} (ha : h a = some (.inl (2, mm, .inr (.inl g)))) {i : Int32} {x : Int64} (hin : vp_in i mm) (hdg : decode cc pc = .ok (.lastore, 1))
    (kk : ∀ (H1 : Heap) (locs1 : List Loc), q_rel G (q_set h a (.inl (2, mm, .inr (.inl (vp_updL g i.toNatClampNeg x))))) n H1 → va_S (q_A G) H0 H1 locs1 → W p l e R s m args below meth c H1 locs1 cells slots Q (F0 m (pc + 1) ls rest)) : W p l e R s m args below meth c H locs cells slots Q (F0 m pc ls (.long x :: .int i :: .ref a :: rest)) := by
  have hat := (r.2 a _ ha).2
  refine W.last hexec hb hat ((hK.2 2 _ rfl).1 mm (fun j => .long (g j))) (fun q => by cases q) (by show ¬ (i < 0 ∨ (arrV _ _ _).slots.size ≤ _); rw [arrV_size]; exact hin) rfl rfl hdg fun H1 e1 z oq => ?_
  refine kk H1 _ (r.upd ha ?_ z oq) (hS.put z oq (r.2 a _ ha).1)
  show H1[a]? = some (vp_cell _ _)
  rw [e1]
  show some ((vp_cell _ _).setSlot _ _) = _
  rw [vp_cell_l, vp_cell_l, arrV_store]
  congr 2
  funext q
  by_cases hq : q = i.toNatClampNeg
  · subst hq; simp [updV, vp_updL]
  · simp [updV, vp_updL, hq]
theorem q_aast (hexec : p.tables.exec = Jvm.exec) (hb : c.code = cc) (hK : va_K G.1 q_cl (q_tys G) s) (r : q_rel G h n H) (hS : va_S (q_A G) H0 H locs) {mm v : Nat} {vs : List Value} {g : Nat → Option Nat} (ha : h a = some (.inl (4, mm, .inr (.inr (.inr (.inr g)))))) (hv : h v = some (.inr (5, vs))) {i : Int32} (hin : vp_in i mm) (hdg : decode cc pc = .ok (.aastore, 1))
    (kk : ∀ (H1 : Heap) (locs1 : List Loc), q_rel G (q_set h a (.inl (4, mm, .inr (.inr (.inr (.inr (va_up g i.toNatClampNeg (some v)))))))) n H1 → va_S (q_A G) H0 H1 locs1 → W p l e R s m args below meth c H1 locs1 cells slots Q (F0 m (pc + 1) ls rest)) : W p l e R s m args below meth c H locs cells slots Q (F0 m pc ls (.ref v :: .int i :: .ref a :: rest)) := by
  have hlt : i.toNatClampNeg < mm := Nat.not_le.mp fun q => hin (Or.inr q)
  have h0 : ¬ i < 0 := fun q => hin (Or.inl q)
  have hat := (r.2 a _ ha).2
  obtain ⟨r', hr', cellV, g1, g2, g3, -⟩ := (r.2 v _ hv).2
  have hcls := (hK.1 5 _ (show q_cl[5]? = some ("FontOutlines$Part", q_T5, 9) from rfl)).2
  obtain ⟨kA, comp, k1, k2, k3, -⟩ := (hK.2 4 _ (show (q_tys G)[4]? = some (G.2.1 4, .object "FontOutlines$Part") from rfl)).2
  have hcomp : comp = G.1.1 5 := Option.some.inj (k3.symm.trans hcls.1)
  subst hcomp
  obtain ⟨kC, hkC, -⟩ := hcls.2
  refine W.aast hexec hb hat (fun q h => by cases h) (fun h => by cases h) k1 k2 rfl hkC ⟨h0, by show _ < (arrV _ _ _).slots.size; rw [arrV_size]; exact hlt⟩ g1 (fun q h => by rw [g3] at h; cases h) (by rw [g2]; exact hkC) (by rw [g2]; exact va_assign hcls) rfl rfl hdg fun H1 e1 z oq => ?_
  refine kk H1 _ (r.upd ha ?_ z oq) (hS.put z oq (r.2 a _ ha).1)
  show H1[a]? = some (vp_cell _ _)
  rw [e1]
  show some ((vp_cell _ _).setSlot _ _) = _
  rw [vp_cell_q, vp_cell_q, arrV_store]
  congr 2
  funext q
  by_cases hq : q = i.toNatClampNeg
  · subst hq; simp [updV, va_up, va_rf]
  · simp [updV, va_up, hq]
theorem q_zero_len (ci : Nat) : ∀ N, (q_zero ci N).length = N
  | 0 => rfl
  | N + 1 => by simp [q_zero, q_zero_len ci N]
theorem q_dv_e (t : FieldType) : q_dv t = defaultValue t := by cases t <;> rfl
theorem q_zero_at (ci : Nat) : ∀ N j, j < N → defaultValue (q_ty ci j) = vp_V (q_zero ci N) j
  | 0, j, h => by omega
  | N + 1, j, h => by
    unfold vp_V
    by_cases hj : j < N
    · have := q_zero_at ci N j hj
      unfold vp_V at this
      rw [this, show q_zero ci (N + 1) = q_zero ci N ++ [q_dv (q_ty ci N)] from rfl, List.getD_eq_getElem?_getD, List.getD_eq_getElem?_getD, List.getElem?_append_left (by rw [q_zero_len]; exact hj)]
    · have hj' : j = N := by omega
      subst hj'
      rw [show q_zero ci (j + 1) = q_zero ci j ++ [q_dv (q_ty ci j)] from rfl, List.getD_eq_getElem?_getD, List.getElem?_append_right (by rw [q_zero_len]; exact Nat.le_refl _), q_zero_len, Nat.sub_self]
      exact (q_dv_e _).symm
theorem q_newo (hexec : p.tables.exec = Jvm.exec) (hb : c.code = cc) {own C : String} {T : u_T} {N ci index : Nat} {Ts : List Cond} (hts : ∀ w ∈ Ts, w.before args s = true) (hTs : ∀ w ∈ q_tbl, w ∈ Ts) (hown : s.vm.findClass own = some m.cls) (hK : va_K G.1 q_cl (q_tys G) s) (hB : G.2.2 ≤ H0.size) (r : q_rel G h n H) (hS : va_S (q_A G) H0 H locs) (hc : q_cl[ci]? = some (C, T, N)) (hl : Cond.classLink own index C ∈ q_tbl ∧ Cond.instantiable C N ∈ q_tbl ∧ Cond.initialized C ∈ q_tbl) (hcells : cells + 1 ≤ R.cells) (hslots : slots + N ≤ R.slots) (hdg : decode cc pc = .ok (.new index, 3))
    (kk : ∀ H1 : Heap, q_rel G (q_set h n (.inr (ci, q_zero ci N))) (n + 1) H1 → va_S (q_A G) H0 H1 locs → W p l e R s m args below meth c H1 locs (cells + 1) (slots + N) Q (F0 m (pc + 3) ls (.ref n :: rest))) : W p l e R s m args below meth c H locs cells slots Q (F0 m pc ls rest) := by
  obtain ⟨hin0, hty, hnm, hdc⟩ := q_cok ci C T N hc
  have hin : ∀ w ∈ u_ws C T N, w ∈ Ts := fun w hw => hTs w (hin0 w hw)
  have hKn := hK.1 ci _ hc
  refine W.newcK hexec hb hown (hts _ (hTs _ hl.1)) (hts _ (hTs _ hl.2.1)) (hts _ (hTs _ hl.2.2)) rfl hdg hcells hslots hKn.2.1 r.1 fun H1 kC hkC e1 z1 o1 => ?_
  refine kk H1 (r.push (by rw [← r.1]; exact Nat.le_trans hB hS.1) ⟨_, hc, (u_born (q_ty ci) hts hin hKn hkC e1 hty).to (q_zero_at ci N)⟩ z1 o1) ⟨by rw [z1, ← r.1]; exact Nat.le_trans hS.1 (Nat.le_succ _), fun x h1 h2 => (o1 x (by rw [← r.1]; exact Nat.lt_of_lt_of_le h1 hS.1)).trans (hS.2.1 x h1 h2), hS.2.2⟩
theorem q_newa (hexec : p.tables.exec = Jvm.exec) (hb : c.code = cc) {atype : ArrayType} {kd : Nat} (hkd : q_atk atype = some kd) {Ts : List Cond} (hts : ∀ w ∈ Ts, w.before args s = true) (hTs : ∀ w ∈ q_tbl, w ∈ Ts) (hK : va_K G.1 q_cl (q_tys G) s) (hB : G.2.2 ≤ H0.size) (r : q_rel G h n H) (hS : va_S (q_A G) H0 H locs) {x : Int32} (hx0 : ¬ x < 0) (hx1 : x.toNatClampNeg ≤ 1000000) (hcells : cells + 1 ≤ R.cells) (hslots : slots + x.toNatClampNeg ≤ R.slots) (hdg : decode cc pc = .ok (.newarray atype, 2))
    (kk : ∀ H1 : Heap, q_rel G (q_set h n (q_new kd x.toNatClampNeg)) (n + 1) H1 → va_S (q_A G) H0 H1 locs → W p l e R s m args below meth c H1 locs (cells + 1) (slots + x.toNatClampNeg) Q (F0 m (pc + 2) ls (.ref n :: rest))) : W p l e R s m args below meth c H locs cells slots Q (F0 m pc ls (.int x :: rest)) := by
  have key : ∀ (ty : FieldType) (a0 : vp_A), newarray.typeOf atype = ty → (q_tys G)[kd]? = some (G.2.1 kd, ty) → Cond.arrayClass ty ∈ q_tbl → componentBytes ty ≤ 8 → q_new kd x.toNatClampNeg = .inl (kd, a0) → (∀ cA : ClassId, vp_cell cA a0 = arrV cA x.toNatClampNeg (fun _ => defaultValue ty)) → (∀ U cA, va_RA U cA ty → U.vm.findClass ("[" ++ ty.toString) = some cA) → W p l e R s m args below meth c H locs cells slots Q (F0 m pc ls (.int x :: rest)) := by
    intro ty a0 hty ht hac hcb hq hcell hra
    subst hty
    refine va_newaK hexec hb (hts _ (hTs _ hac)) rfl hdg rfl hx0 rfl (Nat.le_trans (Nat.mul_le_mul hx1 hcb) (by decide)) hcells hslots r.1 fun H1 cA e1 z1 o1 hAr hNm => ?_
    have hcA : cA = G.2.1 kd := Option.some.inj (hNm.symm.trans (hra s _ (hK.2 kd _ ht).2))
    subst hcA
    refine kk H1 (r.push (by rw [← r.1]; exact Nat.le_trans hB hS.1) (by rw [hq]; show H1[n]? = some (vp_cell _ _); rw [hcell]; exact e1) z1 o1) ⟨by rw [z1, ← r.1]; exact Nat.le_trans hS.1 (Nat.le_succ _), fun x h1 h2 => (o1 x (by rw [← r.1]; exact Nat.lt_of_lt_of_le h1 hS.1)).trans (hS.2.1 x h1 h2), hS.2.2⟩
  cases atype <;> first | (cases hkd; done) | skip
  · cases hkd; exact key .boolean _ rfl rfl q_ac_boolean (by decide) rfl (fun _ => rfl) (fun U cA h => h)
  · cases hkd; exact key .byte _ rfl rfl q_ac_byte (by decide) rfl (fun _ => rfl) (fun U cA h => h)
  · cases hkd; exact key .int _ rfl rfl q_ac_int (by decide) rfl (fun _ => rfl) (fun U cA h => h)
  · cases hkd; exact key .long _ rfl rfl q_ac_long (by decide) rfl (fun _ => rfl) (fun U cA h => h)
theorem q_newq (hexec : p.tables.exec = Jvm.exec) (hb : c.code = cc) {own : String} {index : Nat} {Ts : List Cond} (hts : ∀ w ∈ Ts, w.before args s = true) (hTs : ∀ w ∈ q_tbl, w ∈ Ts) (hown : s.vm.findClass own = some m.cls) (hcl : Cond.classLink own index "FontOutlines$Part" ∈ q_tbl) (hover : va_AO "FontOutlines$Part" s) (hK : va_K G.1 q_cl (q_tys G) s) (hB : G.2.2 ≤ H0.size) (r : q_rel G h n H) (hS : va_S (q_A G) H0 H locs) {x : Int32} (hx0 : ¬ x < 0) (hx1 : x.toNatClampNeg ≤ 1000000) (hcells : cells + 1 ≤ R.cells) (hslots : slots + x.toNatClampNeg ≤ R.slots) (hdg : decode cc pc = .ok (.anewarray index, 3))
    (kk : ∀ H1 : Heap, q_rel G (q_set h n (q_new 4 x.toNatClampNeg)) (n + 1) H1 → va_S (q_A G) H0 H1 locs → W p l e R s m args below meth c H1 locs (cells + 1) (slots + x.toNatClampNeg) Q (F0 m (pc + 3) ls (.ref n :: rest))) : W p l e R s m args below meth c H locs cells slots Q (F0 m pc ls (.int x :: rest)) := by
  refine W.anew hexec hb hown (hts _ (hTs _ hcl)) (va_AO.use hover) rfl hdg rfl hx0 (by omega) hcells hslots fun cA kA comp f1 f2 f3 f4 => ?_
  obtain ⟨kA', comp', -, -, -, g4⟩ := (hK.2 4 _ (show (q_tys G)[4]? = some (G.2.1 4, .object "FontOutlines$Part") from rfl)).2
  have hcA : cA = G.2.1 4 := Option.some.inj (f1.symm.trans g4)
  subst hcA
  have hsz := r.1
  generalize hH1 : H.push ({ cls := G.2.1 4, slots := Array.replicate x.toNatClampNeg .null, vm := .none } : Cell) = H1
  have z1 : H1.size = n + 1 := by rw [← hH1, Array.size_push, hsz]
  have e1 : H1[n]? = some (arrV (G.2.1 4) x.toNatClampNeg (fun _ => .null)) := by rw [← hH1, ← hsz, Array.getElem?_push_size, ← arrV_new]
  have o1 : ∀ q : Nat, q < n → H1[q]? = H[q]? := fun q hq => by rw [← hH1, Array.getElem?_push, if_neg (by rw [hsz]; exact Nat.ne_of_lt hq)]
  rw [hsz]
  refine kk H1 (r.push (by rw [← hsz]; exact Nat.le_trans hB hS.1) (by show H1[n]? = some (vp_cell (G.2.1 4) (x.toNatClampNeg, .inr (.inr (.inr (.inr (fun _ => none)))))); rw [vp_cell_q]; exact e1) z1 o1) ⟨by rw [z1, ← hsz]; exact Nat.le_trans hS.1 (Nat.le_succ _), fun x h1 h2 => (o1 x (by rw [← hsz]; exact Nat.lt_of_lt_of_le h1 hS.1)).trans (hS.2.1 x h1 h2), hS.2.2⟩
theorem q_copy (hexec : p.tables.exec = Jvm.exec) (hb : c.code = cc) (hml : c.maxLocals = ls.size) {own : String} {index : Nat} {Ts : List Cond} (hts : ∀ w ∈ Ts, w.before args s = true) (hTs : ∀ w ∈ q_tbl, w ∈ Ts) (hown : s.vm.findClass own = some m.cls) (hlk : Cond.methodLink own index arraycopyName ∈ q_tbl) (hK : va_K G.1 q_cl (q_tys G) s) (r : q_rel G h n H) (hS : va_S (q_A G) H0 H locs) {a0 n0 n1 : Nat} {f g : Nat → Int32} (ha0 : h a0 = some (.inl (1, n0, .inl f))) (ha1 : h a = some (.inl (1, n1, .inl g)))
    {sp dp nn : Int32} (h1 : ¬ sp < 0) (h2 : ¬ dp < 0) (h3 : ¬ nn < 0) (h4 : sp.toNatClampNeg + nn.toNatClampNeg ≤ n0) (h5 : dp.toNatClampNeg + nn.toNatClampNeg ≤ n1) (hfit : ∀ i, i < nn.toNatClampNeg → fits .byte (.int (f (sp.toNatClampNeg + i))) = true)
    (hframes : 1 ≤ R.frames) (hlocals : (rest.map fun v => v.category).sum + (nativeFrameWords "java/lang/System" "arraycopy" 5 + 11) ≤ R.locals) (hdg : decode cc pc = .ok (.invokestatic index, 3))
    (kk : ∀ (H1 : Heap) (locs1 : List Loc), q_rel G (q_set h a (.inl (1, n1, .inl (va_cpy f g sp.toNatClampNeg dp.toNatClampNeg nn.toNatClampNeg)))) n H1 → va_S (q_A G) H0 H1 locs1 → W p l e R s m args below meth c H1 locs1 cells slots Q (F0 m (pc + 3) ls rest)) : W p l e R s m args below meth c H locs cells slots Q (F0 m pc ls (.int nn :: .int dp :: .ref a :: .int sp :: .ref a0 :: rest)) := by
  have cn : ∀ z : Int32, ¬ z < 0 → z.toInt = (z.toNatClampNeg : Int) := by
    intro z hz
    have hz0 : (0 : Int) ≤ z.toInt := by
      have := Int32.not_lt.mp hz
      simpa using Int32.le_iff_toInt_le.mp this
    show z.toInt = ((z.toInt.toNat : Nat) : Int)
    omega
  intro T hT X
  have hc0 : H[a0]? = some (vp_cell (G.2.1 1) (n0, .inl f)) := (r.2 a0 _ ha0).2
  have hc1 : H[a]? = some (vp_cell (G.2.1 1) (n1, .inl g)) := (r.2 a _ ha1).2
  have hA : q_A G a := (r.2 a _ ha1).1
  obtain ⟨-, k0, hk0, cm0, hkk0⟩ := (hK.2 1 _ rfl).1 n0 (fun j => .int (f j))
  obtain ⟨-, k1, hk1, cm1, hkk1⟩ := (hK.2 1 _ rfl).1 n1 (fun j => .int (g j))
  obtain ⟨vm', X', step⟩ := X.arraycopy hexec hown (hts _ (hTs _ hlk)) (hts _ (hTs _ q_na_ac)) (hts _ (hTs _ q_st_ac)) (hts _ (hTs _ q_in_Sys)) (src := a0) (dst := a) (cs := vp_cell (G.2.1 1) (n0, .inl f)) (cd := vp_cell (G.2.1 1) (n1, .inl g)) (srcPos := sp) (destPos := dp) (n := nn) (by rw [hT]; exact hc0) (by rw [hT]; exact hc1)
    (fun _ h => by cases h) (fun _ h => by cases h) (fun h => by cases h) (fun h => by cases h) hk0 hk1 hkk0 hkk1 (show ((refKind FieldType.byte != refKind FieldType.byte) || (!refKind FieldType.byte && FieldType.byte != FieldType.byte)) = false by decide) h1 h2 h3
    (by rw [cn sp h1, cn nn h3]; show ¬ _ > ((arrV _ n0 (fun j => .int (f j))).slots.size : Int); rw [arrV_size]; omega)
    (by rw [cn dp h2, cn nn h3]; show ¬ _ > ((arrV _ n1 (fun j => .int (g j))).slots.size : Int); rw [arrV_size]; omega)
    (fun vm₁ _ i hi => by
      have e : (vp_cell (G.2.1 1) (n0, .inl f)).slots.getD (sp.toNatClampNeg + i) .null = .int (f (sp.toNatClampNeg + i)) := by
        show (arrV _ n0 (fun j => .int (f j))).slots.getD _ _ = _
        rw [Array.getD_eq_getD_getElem?, arrV_read _ _ (by omega)]
        rfl
      exact ⟨by rw [e]; exact hfit i hi, by rw [e]; exact trivial⟩)
    (g := F0 m pc ls (.int nn :: .int dp :: .ref a :: .int sp :: .ref a0 :: rest)) rfl (by rw [hml]) (rest := rest) rfl (by rw [hb]; exact hdg) hframes (by show 2 * 0 + _ + _ ≤ _; omega)
  have e1 : copied (vp_cell (G.2.1 1) (n0, .inl f)) (vp_cell (G.2.1 1) (n1, .inl g)) sp dp nn = vp_cell (G.2.1 1) (n1, .inl (va_cpy f g sp.toNatClampNeg dp.toNatClampNeg nn.toNatClampNeg)) := va_copied (fun z => .int z) _ _ f g h4
  rw [e1] at X' step
  have hl : a < H.size := (Array.getElem?_eq_some_iff.mp hc1).1
  generalize vp_cell (G.2.1 1) (n1, .inl (va_cpy f g sp.toNatClampNeg dp.toNatClampNeg nn.toNatClampNeg)) = cl1 at X' step e1
  have hheap : ((T.setVm vm').setCell a cl1).heap = H.setIfInBounds a cl1 := by rw [← hT]; rfl
  have oq : ∀ q : Nat, q ≠ a → (H.setIfInBounds a cl1)[q]? = H[q]? := fun q hq => by simp [Array.getElem?_setIfInBounds, Ne.symm hq]
  have es : (H.setIfInBounds a cl1)[a]? = some cl1 := by simp [Array.getElem?_setIfInBounds, hl]
  have hz : (H.setIfInBounds a cl1).size = H.size := by simp
  obtain ⟨t, a1, b1⟩ := kk (H.setIfInBounds a cl1) _ (r.upd ha1 (by show (H.setIfInBounds a cl1)[a]? = some (vp_cell _ _); rw [es]; exact congrArg some (e1.symm.trans (va_copied (fun z => .int z) _ _ f g h4))) hz oq) ⟨by rw [hz]; exact hS.1, fun q g1 g2 => by
      rw [oq q (fun e => g2 (by rw [e]; exact hA))]
      exact hS.2.1 q g1 g2, fun q hq => by
      rcases List.mem_append.mp hq with h | h
      · exact hS.2.2 q h
      · obtain ⟨z, -, hz⟩ := List.mem_map.mp h
        rw [← hz]
        exact hA⟩ _ hheap X'
  exact ⟨t, step t a1, b1⟩
/-- behind a call -/
theorem q_after {mc ms : Nat} {Qp : q_P} {st0 : List Value} {aa : Array Value} (hr : va_Run p l e R s m args below meth c H locs cells slots mc ms (F0 m pc ls st0) rest (q_Qc G Qp aa) (q_A G)) (hS : va_S (q_A G) H0 H locs)
    (kk : ∀ (v : Option Value) (h1 : q_H) (n1 : Nat) (H1 : Heap) (locs1 : List Loc), q_rel G h1 n1 H1 → Qp v h1 n1 → va_S (q_A G) H0 H1 locs1 → W p l e R s m args below meth c H1 locs1 (cells + mc) (slots + ms) Q (F0 m (pc + 3) ls (v.toList ++ rest))) : W p l e R s m args below meth c H locs cells slots Q (F0 m pc ls st0) := by
  intro T hT X
  obtain ⟨v, st₀, t, T', L, h0, X', hL, e1, e2, ⟨v', h1, n1, hv, hrel, hq, hz, hk⟩, st⟩ := hr T hT X
  cases hv
  rw [h0] at hz hk
  obtain ⟨t2, a1, b1⟩ := kk v h1 n1 T'.heap (locs ++ L) (by rw [e1]; exact hrel) hq
    ⟨Nat.le_trans hS.1 (by rw [e1]; exact hz), fun q g1 g2 => by rw [e1, hk q (Nat.lt_of_lt_of_le g1 hS.1) g2]; exact hS.2.1 q g1 g2, fun q hq => by
      rcases List.mem_append.mp hq with hh | hh
      · exact hS.2.2 q hh
      · exact hL q hh⟩ T' rfl X'
  exact ⟨t2, st t2 a1, b1⟩
theorem q_blind (G : q_G) (h : q_H) (n : Nat) (As : List Value) : FrameBlind (va_Pc As (fun U => q_rel G h n U.heap ∧ q_Kx G U)) := by
  intro a U g mk q
  obtain ⟨q0, q1, qK, qN, qB⟩ := q
  exact ⟨q0, q1, va_K.moved (u := U) (U := U.calling g mk a) (Vm.Alike.refl U.vm) qK, q_NW.same (u := U) rfl qN, qB⟩
theorem q_pre (hKx : q_Kx G s) (r : q_rel G h n H) (hS : va_S (q_A G) s.heap H locs) (As : List Value) : ∀ U : State, U.heap = H → s.WarmedH U.vm → va_Pc As (fun U => q_rel G h n U.heap ∧ q_Kx G U) As.toArray U :=
  fun U hU hW => ⟨rfl, by rw [hU]; exact r, va_K.moved hW.alike hKx.1, hKx.2.1.warm hW, by rw [hU]; exact Nat.le_trans hKx.2.2 hS.1⟩
end Q6
