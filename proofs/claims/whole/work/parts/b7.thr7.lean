/-! a call of a method that throws, where nothing catches -/
theorem x_ow (ci : Nat) (x : vw_C) (hx : q_cl[ci]? = some x) : q_ow[ci]? = some x.1 := by
  match ci, hx with
  | 0, hx => cases hx; rfl
  | 1, hx => cases hx; rfl
  | 2, hx => cases hx; rfl
  | 3, hx => cases hx; rfl
  | 4, hx => cases hx; rfl
  | 5, hx => cases hx; rfl
  | 6, hx => cases hx; rfl
  | 7, hx => cases hx; rfl
  | 8, hx => cases hx; rfl
  | ci + 9, hx => cases hx
set_option maxRecDepth 100000 in
set_option maxHeartbeats 4000000 in
theorem t_calV {G : q_G} {l : Launch} {M M' : q_MT} {d' mc ms mc' ms' na pc j n k sl : Nat} {Tq : q_T} {lv : q_L} {h : q_H} {b : Nat} {fs bs r : List Value} (hm : q_ml M.1 j = some (na, M', 0)) (hbo : h b = some (.inr (M'.1, fs))) (hlen : bs.length = na) (hcat : (r.map fun v => v.category).sum ≤ 8) (hd : decode (q_b M) pc = .ok (.invokevirtual j, 3)) (hk : k + mc' ≤ mc) (hsl : sl + ms' ≤ ms) (hq : q_Thr G l M' d' mc' ms' (.ref b :: bs) h n Tq) : q_Y G l M (d' + 1) mc ms Tq pc lv (bs.reverse ++ .ref b :: r) h n k sl := by
  intro p e s m args below meth c H locs ls cx sx et rl hS hl T hT X
  have hx := cx.1
  have hb := cx.2.1
  have hml := cx.2.2.2.1
  have hlk := cx.2.2.2.2.1
  have hown := cx.2.2.2.2.2.1
  have hts := cx.2.2.2.2.2.2.1
  have hKx := cx.2.2.2.2.2.2.2.1
  have how := cx.2.2.2.2.2.2.2.2.2
  have tb : ∀ w ∈ q_tbl, w.before args s = true := fun w hw => hts w (List.mem_cons_of_mem _ hw)
  obtain ⟨hM, hpd, ⟨w1, w2, w3, w4⟩, -⟩ := q_ml_ok how hm
  obtain ⟨m1, m2, m3, m4, m5⟩ := q_okM_s hM
  have hcw : CallW (q_rm (d' + 1) mc ms) s args (q_y M).cls (q_y M').cls j (q_y M') (q_b M') (q_ln M') (q_r M') (q_ws M') (q_rm d' mc' ms') mc' ms' na :=
    ⟨callB_of na hts (q_good m1) rfl rfl rfl (tb _ w4) (tb _ w1) ⟨m5.1, m5.2, hpd⟩ ⟨Nat.le_refl _, by show 8 + (q_ln M' + 11) + 64 * d' ≤ 64 * (d' + 1); omega⟩, tb _ w2, tb _ w3⟩
  obtain ⟨rr, hrr, cell, q1, q2, q3, -⟩ := (rl.2 b _ hbo).2
  have hcls := (hKx.1.1 M'.1 rr hrr).2.1
  have hrc : rr.1 = (q_y M').cls := Option.some.inj ((x_ow _ _ hrr).symm.trans m2)
  obtain ⟨v, T', L, kd, h', n', ce, X', k1, k2, k3, k4, k5, k6, st⟩ := x_thrV X hT hx hown hcw q1 (by rw [q3]; rfl) (by rw [← hrc, q2]; exact hcls) hq hKx sx rl hS (g := F0 m pc ls (bs.reverse ++ .ref b :: r)) rfl (by rw [hml]; exact hl.1) (Steps.refl _) hlen rfl (by show 2 * 0 + _ ≤ 8; omega) (by rw [hb]; exact hd) ⟨hk, hsl⟩
  obtain ⟨st2, run, ended, warm, same⟩ := X'.leaveThrown v (g := { (F0 m pc ls (bs.reverse ++ .ref b :: r)) with stack := r }) rfl rfl rfl (fun x hx => by rw [et] at hx; cases hx) hlk
  exact ⟨_, st.trans st2, .threw v, run, ended, ⟨v, kd, h', n', ce, rfl, k1, k2, k3, k4, k5, k6.1, k6.2.1⟩, locs ++ L, ⟨⟨v, rfl⟩, warm, same.mono hk hsl⟩, k6.2.2⟩
