/-! the throw: new E, dup, ldc, E.<init>(String), athrow -/
set_option maxRecDepth 100000 in
set_option maxHeartbeats 4000000 in
theorem t_throw {G : q_G} {l : Launch} {M : q_MT} {d mc ms : Nat} {Tq : q_T} {pc : Nat} {lv : q_L} {h : q_H} {n k sl : Nat} (hlt : l.stackTraces = false) (kd inew ic j : Nat) (tx : String) (hy : (q_y M).cls = "FontOutlines")
    (hd0 : decode (q_b M) pc = .ok (.new inew, 3)) (hd3 : decode (q_b M) (pc + 3) = .ok (.dup, 1)) (hd4 : decode (q_b M) (pc + 3 + 1) = .ok (.ldc j, 2)) (hd6 : decode (q_b M) (pc + 3 + 1 + 2) = .ok (.invokespecial ic, 3)) (hd9 : decode (q_b M) (pc + 3 + 1 + 2 + 3) = .ok (.athrow, 1))
    (hwo : ∀ w ∈ Bundle.ownAtoms "FontOutlines" ic (x_nm kd) x_ch, w ∈ q_tbl ∨ w ∈ x_w) (hcl : Cond.classLink "FontOutlines" inew (x_nm kd) ∈ q_tbl) (hin : Cond.initialized (x_nm kd) ∈ q_tbl) (hfit : Bundle.fit (x_nm kd) = true) (hs : (j, tx) ∈ x_s)
    (hk : k + 1 ≤ mc) (hsl : sl + 6 ≤ ms) (hd : 6 ≤ d) (kk : Tq kd h (n + 1)) : q_Y G l M d mc ms Tq pc lv [] h n k sl := by
  intro p e s m args below meth c H locs ls cx sx et r hS hl T hT X
  have hx := cx.1
  have hb := cx.2.1
  have hml := cx.2.2.2.1
  have hlk := cx.2.2.2.2.1
  have hown := cx.2.2.2.2.2.1
  have hts := cx.2.2.2.2.2.2.1
  have hKx := cx.2.2.2.2.2.2.2.1
  have tb : ∀ w ∈ q_tbl, w.before args s = true := fun w hw => hts w (List.mem_cons_of_mem _ hw)
  have X' := x_base X (by show k ≤ mc; omega) (by show sl ≤ ms; omega)
  have hW : s.WarmedH (T.setFrames (.invoking m args :: below)).vm := X.warmed
  have tb' : ∀ w ∈ q_tbl, w.before args (T.setFrames (.invoking m args :: below)) = true := fun w hw => word_at hW (good_of_word (List.mem_filter.mp hw).2) (tb w hw)
  have sx' : q_St G (T.setFrames (.invoking m args :: below)) := sx.mv hW (fun a ha => by
    show T.heap[a]? = s.heap[a]?
    rw [hT]
    exact hS.2.1 a (Nat.lt_of_lt_of_le ha hKx.2.2) (fun q => absurd ha (Nat.not_lt.mpr q)))
  have wo : ∀ w ∈ Bundle.ownAtoms "FontOutlines" ic (x_nm kd) x_ch, w.before args (T.setFrames (.invoking m args :: below)) = true := fun w hw => by
    rcases hwo w hw with q | q
    · exact tb' w q
    · exact sx'.at q args
  rw [hy] at hown
  have hown' : (T.setFrames (.invoking m args :: below)).vm.findClass "FontOutlines" = some m.cls := by rw [hW.alike.findClass]; exact hown
  have hins := wo (.instantiable (x_nm kd) 6) (by simp [Bundle.ownAtoms])
  obtain ⟨cX, kX, hfX, hkX, -⟩ := Cond.instantiable_spec hins
  obtain ⟨q, hq⟩ := sx'.2.1 (j, tx) hs
  have htr : e.platform.stackTraces = false := by rw [X.admits.platform]; exact hlt
  have hw : W p l e { frames := d, cells := mc - k, slots := ms - sl, locals := 64 * d } (T.setFrames (.invoking m args :: below)) m args below meth c H [] 0 0 (fun U => U.status = .running ∧ Ended U below (.threw n) ∧ (T.setFrames (.invoking m args :: below)).WarmedH U.vm ∧ (T.setFrames (.invoking m args :: below)).sameButNew ({ U with vm := (T.setFrames (.invoking m args :: below)).vm } : State) [] 1 6 ∧ ∃ ce, U.heap[n]? = some ce ∧ Bundle.OwnCell args (T.setFrames (.invoking m args :: below)) (x_nm kd) n (.ref q) ce) (F0 m pc ls []) := by
    refine W.newcK hx hb hown' (tb' _ hcl) hins (tb' _ hin) rfl hd0 (by show 0 + 1 ≤ mc - k; omega) (by show 0 + 6 ≤ ms - sl; omega) hfX r.1 fun H1 kC hkC e1 z1 o1 => ?_
    refine lv_dup hx hb hd3 rfl ?_
    refine va_ldcS hx hb hown' hq hd4 ?_
    intro T2 hT2 X2
    obtain ⟨U, st, run, ended, warm, same, ce, hce, own⟩ := X2.ctorThrowS hx htr (own := "FontOutlines") (cls := x_nm kd) (names := x_ch) (ic := ic) hown' hfit (by decide) wo (fun x hx => by cases hx) (a := n) hfX hkC (by rw [hT2]; exact e1) (by show T.heap.size ≤ n; rw [hT, r.1]; exact Nat.le_refl _) (msg := .ref q) rfl
      (g := F0 m (pc + 3 + 1 + 2) ls [.ref q, .ref n, .ref n]) rfl (by rw [hml]; exact hl.1) rfl rfl (rest := []) rfl (by rw [hb]; exact hd6) (by rw [hb]; exact hd9) (fun x hx => by rw [et] at hx; cases hx) (by show 2 + 3 < d; omega) (by show 2 * 0 + 1 + (13 * (2 + 1) + 42) ≤ 64 * d; omega) hlk
    exact ⟨U, st, run, ended, warm, same, ce, hce, own⟩
  obtain ⟨U, st, run, ended, warm, same, ce, hce, own⟩ := hw T hT X'
  have hTn : T.heap.size = n := by rw [hT]; exact r.1
  have kept : ∀ a : Nat, a < n → U.heap[a]? = H[a]? := fun a ha => by
    have h1 : T.heap[a]? = some T.heap[a] := Array.getElem?_eq_getElem (by rw [hTn]; exact ha)
    have h2 := same.kept_nil (a := a) (show (T.setFrames (.invoking m args :: below)).heap[a]? = _ from h1)
    rw [← hT, h1]
    exact h2
  have hsz : U.heap.size = n + 1 := by
    have h1 := same.2.2.1
    have h1' : U.heap.size ≤ T.heap.size + 1 := h1
    have h2 := (Array.getElem?_eq_some_iff.mp hce).1
    omega
  have same1 := (same.of_setFrames).setVm s.vm
  have same2 := X.same.trans same1
  refine ⟨U, st, .threw n, run, ended, ⟨n, kd, h, n + 1, ce, rfl, hce, ?_, own.vm, ⟨hsz, fun b e he => ⟨(r.2 b e he).1, (r.2 b e he).2.kept (kept b (r.lt he))⟩⟩, kk, ?_⟩, locs, ⟨⟨n, rfl⟩, State.WarmedH.trans X.warmed warm, ?_⟩, hS.2.2⟩
  · rw [← hW.alike.findClass]; exact own.cls
  · have hz := hS.1
    rw [r.1] at hz
    exact ⟨by rw [hsz]; omega, fun q h1 h2 => (kept q (by omega)).trans (hS.2.1 q h1 h2)⟩
  · have := same2.mono hk hsl
    rw [List.append_nil] at this
    exact this
