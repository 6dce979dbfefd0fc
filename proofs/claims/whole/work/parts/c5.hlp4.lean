/-! the law calls a helper -/
theorem h_blind (G : q_G) (h : q_H) (n : Nat) (As : List Value) : FrameBlind (va_Pc As (fun U => q_rel G h n U.heap ∧ q_Kx G U ∧ q_St G U)) := by
  intro a U g mk q
  obtain ⟨q0, q1, ⟨qK, qN, qB⟩, qS⟩ := q
  exact ⟨q0, q1, ⟨va_K.moved (u := U) (U := U.calling g mk a) (Vm.Alike.refl U.vm) qK, q_NW.same (u := U) rfl qN, qB⟩, qS.mv (State.WarmedH.refl U) (fun _ _ => rfl)⟩
set_option maxRecDepth 100000 in
set_option maxHeartbeats 4000000 in
theorem v_hlp {G : q_G} {l : Launch} {Ex : State → Code → Prop} {y yh : MethodName} {cc cch : ByteArray} {lnn lh : Nat} {hs : List (Nat × Nat × Nat × Nat)} {Ts : List Cond} {M : q_MT} {d' mc ms mc' ms' pc j n k sl : Nat} {Q : q_P} {lv : q_L} {h : q_H} {As r : List Value} (hEx : ∀ s c, Ex s c → q_St G s)
    (w1 : Cond.methodLink y.cls j yh ∈ q_tbl) (w2 : Cond.static yh ∈ q_tbl) (w3 : Cond.initialized yh.cls ∈ q_tbl) (w4 : Cond.codeWith yh cch lh (some .int) hs ∈ q_tbl) (hy : yh.cls ≠ "java/lang/invoke/MethodHandle" ∧ yh.cls ≠ "java/lang/invoke/VarHandle") (hpar : (parseMethodDescriptor yh.desc).map (fun d => d.parameters.length) = some As.length) (hlh : lh ≤ 45)
    (hd : decode cc pc = .ok (.invokestatic j, 3)) (hcat : (r.map fun v => v.category).sum ≤ 8) (hk : k + mc' ≤ mc) (hsl : sl + ms' ≤ ms)
    (hq : q_Hlp G l yh cch lh hs d' mc' ms' As h n (fun v h' n' => q_V G l Ex y cc lnn Ts M (d' + 1) mc ms Q (pc + 3) lv (v.toList ++ r) h' n' (k + mc') (sl + ms'))) : q_V G l Ex y cc lnn Ts M (d' + 1) mc ms Q pc lv (As.reverse ++ r) h n k sl := by
  intro p e s m args below meth c H locs ls cx ex rl hS hl T hT X
  have hx := cx.1
  have hb := cx.2.1
  have hml := cx.2.2.2.1
  have hown := cx.2.2.2.2.2.1
  have hts := cx.2.2.2.2.2.2.1
  have hKx := cx.2.2.2.2.2.2.2.1
  have hTs := cx.2.2.2.2.2.2.2.2.2.2
  have tb : ∀ w ∈ q_tbl, w.before args s = true := fun w hw => hts w (hTs w hw)
  have tg : ∀ w ∈ q_tbl, (w.onTables && w.keeps) = true ∨ ∃ ty, w = .arrayClass ty := fun w hw => good_of_word (List.mem_filter.mp hw).2
  have hws : ∀ w ∈ Cond.codeWith yh cch lh (some .int) hs :: q_tbl, ∀ (a' : Array Value) (U : State), s.WarmedH U.vm → w.before a' U = true := fun w hw a' U hW => by
    rcases List.mem_cons.mp hw with rfl | hw
    · exact word_at hW (tg _ w4) (tb _ w4)
    · exact word_at hW (tg _ hw) (tb _ hw)
  have hK : Back l (q_rm (d' + 1) mc ms) p e below s args yh 3 8 (PreOf (q_rm (d' + 1) mc ms) mc' ms' (va_Pc As (fun U => q_rel G h n U.heap ∧ q_Kx G U ∧ q_St G U))) (PostOf (q_Qc G _) mc' ms' (q_A G)) :=
    va_backW (hh := hs) (bytes := cch) (maxL := lh) (ret := some .int) hq (h_blind G h n As) rfl rfl (Nat.le_refl _) (by show 8 + (lh + 11) + 64 * d' ≤ 64 * (d' + 1); omega) hws List.mem_cons_self (fun a' U hW => word_at hW (tg _ w3) (tb _ w3))
  obtain ⟨mk, methM, cM, hnamed, hmethM, -, -, -, -, -, -, hsigM⟩ := Cond.codeWith_spec (tb _ w4)
  have hstatic : methM.isStatic = true := Cond.static_spec hnamed hmethM (tb _ w2)
  obtain ⟨kP, hkP, -⟩ := className_of_methodNamed hnamed
  have hinitP : kP.init = .initialized := Cond.initialized_spec (findClass_of_methodNamed hnamed) hkP (tb _ w3)
  have hlen : As.length = methM.sig.parameters.length := by
    rw [hsigM] at hpar
    exact (Option.some.inj hpar).symm
  obtain ⟨vm₁, X₁, hstep₁⟩ := X.invokestatic hx hown (tb _ w1) hnamed hmethM hstatic hkP hinitP hy (g := F0 m pc ls (As.reverse ++ r)) rfl (argsL := As) (rest := r) hlen rfl (by rw [hb]; exact hd)
  have hpre : PreOf (q_rm (d' + 1) mc ms) mc' ms' (va_Pc As (fun U => q_rel G h n U.heap ∧ q_Kx G U ∧ q_St G U)) ⟨T.setVm vm₁, locs, k, sl⟩ As.toArray := by
    obtain ⟨e1, e2, e3⟩ := q_pre hKx rl hS As (T.setVm vm₁) hT X₁.warmed
    exact ⟨hk, hsl, e1, e2, e3, (hEx s c ex).mv X₁.warmed (fun a ha => by
      show T.heap[a]? = s.heap[a]?
      rw [hT]
      exact hS.2.1 a (Nat.lt_of_lt_of_le ha hKx.2.2) (fun q => absurd ha (Nat.not_lt.mpr q)))⟩
  obtain ⟨v, B, X', ⟨g', mk', t, L, b1, b2, ⟨v', h', n', hv, k1, k2, k3⟩, b3, b4, b5, b6⟩, hsteps⟩ := hK m meth c ⟨T.setVm vm₁, locs, k, sl⟩ { (F0 m pc ls (As.reverse ++ r)) with stack := r } (.invokestatic j) mk As.toArray X₁ rfl (by rw [hml]; exact hl.1) (by rw [hb]; exact hd) (by show 2 * 0 + (r.map fun v => v.category).sum ≤ 8; omega) (X₁.named hnamed) hpre
  cases hv
  have b3' : B.locs = locs ++ L := b3
  have b5' : B.cells = k + mc' := b5
  have b6' : B.slots = sl + ms' := b6
  rw [b3', b5', b6'] at X'
  have k3' : T.heap.size ≤ t.heap.size ∧ ∀ q : Nat, q < T.heap.size → ¬ q_A G q → t.heap[q]? = T.heap[q]? := k3
  rw [hT] at k3'
  obtain ⟨t2, a1, z1⟩ := k2 p e s m args below meth c B.U.heap (locs ++ L) ls cx ex (by rw [b1]; exact k1) ⟨Nat.le_trans hS.1 (by rw [b1]; exact k3'.1), fun q g1 g2 => by rw [b1]; exact (k3'.2 q (Nat.lt_of_lt_of_le g1 hS.1) g2).trans (hS.2.1 q g1 g2), fun q hq => by
    rcases List.mem_append.mp hq with hh | hh
    · exact hS.2.2 q hh
    · exact b4 q hh⟩ hl B.U rfl X'
  exact ⟨t2, (hstep₁ _ fun acts => by rw [doInvoke_state]; exact hsteps).trans a1, z1⟩
