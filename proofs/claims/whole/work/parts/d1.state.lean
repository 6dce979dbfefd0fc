/-! the state of the law's loop: the class (x .. x + 47 and its rows) -/
def CS0 (h : q_H) (x cur spa : Nat) (ld : Bool) (sh : Int32) : Prop := h x = some (.inr (7, [.ref (x + 1), .ref (x + 29), .ref cur, .ref spa, .int (bI ld), .int sh])) ∧ ((cur = x + 3 ∧ spa = x + 16) ∨ (cur = x + 16 ∧ spa = x + 3)) ∧ FoJ h cur ∧ FoJ h spa ∧ (∃ st ln, q_Ta h (cur + 3) (cur + 1) st ln) ∧ (∃ st ln, q_Ta h (spa + 3) (spa + 1) st ln) ∧ OuJ h (x + 29)
def CS1 (h : q_H) (n x cur spa : Nat) (F : Nat → Nat) (sz : Nat) (Fc : Nat → Nat) (sc ra rc rs ma mc ms : Nat) : Prop := (∃ g, q_By h (x + 1) ra ma g sz F) ∧ (∃ g, q_By h (cur + 1) rc mc g sc Fc) ∧ (∃ g ss Fs, q_By h (spa + 1) rs ms g ss Fs) ∧ ROW n x ra ∧ ROW n x rc ∧ ROW n x rs ∧ ra ≠ rc ∧ ra ≠ rs ∧ rc ≠ rs ∧ x + 73 < n ∧ (ra = x + 2 ∨ x + 73 < ra) ∧ (rc = cur + 2 ∨ x + 73 < rc) ∧ (rs = spa + 2 ∨ x + 73 < rs)
def CS2 (h : q_H) (x cur : Nat) (ld : Bool) (sh : Int32) (Fc : Nat → Nat) (sc : Nat) : Prop := (ld = true → FoK h cur Fc sc ∧ FNT Fc sc ∧ ALL_ok Fc sc) ∧ ∀ k, k < 65536 → sh = nI k → ld = true ∧ SHN h (x + 29) Fc sc k
/-- the class, its file F, sz, the font Fc, sc (if ld), P slots paid for its rows -/
def CS (h : q_H) (n x : Nat) (F : Nat → Nat) (sz : Nat) (ld : Bool) (Fc : Nat → Nat) (sc P : Nat) : Prop := ∃ cur spa sh ra rc rs ma mc ms, CS0 h x cur spa ld sh ∧ CS1 h n x cur spa F sz Fc sc ra rc rs ma mc ms ∧ CS2 h x cur ld sh Fc sc ∧ GP ma + GP mc + GP ms = P
theorem ROW.le {n n' x r : Nat} (h : ROW n x r) (hn : n ≤ n') : ROW n' x r := ⟨Nat.lt_of_lt_of_le h.1 hn, h.2⟩
theorem CS0.mv {h h' : q_H} {x cur spa : Nat} {ld : Bool} {sh : Int32} (c : CS0 h x cur spa ld sh) (e : ∀ b, x ≤ b → b < x + 48 → h' b = h b) : CS0 h' x cur spa ld sh := by
  obtain ⟨c1, c2, c3, c4, ⟨s1, l1, c5⟩, ⟨s2, l2, c6⟩, c7⟩ := c
  exact ⟨(e x (by omega) (by omega)).trans c1, c2, c3.cp (fun b hb => e b (by omega) (by omega)), c4.cp (fun b hb => e b (by omega) (by omega)), ⟨s1, l1, (e _ (by omega) (by omega)).trans c5⟩, ⟨s2, l2, (e _ (by omega) (by omega)).trans c6⟩, c7.mv (fun b b1 b2 => e b (by omega) (by omega))⟩
theorem ROW.ne {n x r : Nat} (h : ROW n x r) : (x ≤ r ∧ r < x + 48) ∨ x + 73 < r := by
  have := h.2
  omega
theorem CS1.mv {h h' : q_H} {n n' x cur spa : Nat} {F : Nat → Nat} {sz : Nat} {Fc : Nat → Nat} {sc ra rc rs ma mc ms : Nat} (hcs : (cur = x + 3 ∧ spa = x + 16) ∨ (cur = x + 16 ∧ spa = x + 3)) (c : CS1 h n x cur spa F sz Fc sc ra rc rs ma mc ms) (hn : n ≤ n') (e : ∀ b, b < n → ((x ≤ b ∧ b < x + 48) ∨ x + 73 < b) → h' b = h b) : CS1 h' n' x cur spa F sz Fc sc ra rc rs ma mc ms := by
  obtain ⟨⟨g1, c1⟩, ⟨g2, c2⟩, ⟨g3, ss, Fs, c3⟩, c4, c5, c6, c7, c8, c9, c10, c11⟩ := c
  exact ⟨⟨g1, c1.mv (e _ (by omega) (by omega)) (e _ c4.1 c4.ne)⟩, ⟨g2, c2.mv (e _ (by omega) (by omega)) (e _ c5.1 c5.ne)⟩, ⟨g3, ss, Fs, c3.mv (e _ (by omega) (by omega)) (e _ c6.1 c6.ne)⟩, c4.le hn, c5.le hn, c6.le hn, c7, c8, c9, by omega, c11⟩
theorem CS2.mv {h h' : q_H} {x cur : Nat} {ld : Bool} {sh : Int32} {Fc : Nat → Nat} {sc : Nat} (hc : cur = x + 3 ∨ cur = x + 16) (c : CS2 h x cur ld sh Fc sc) (e : ∀ b, x ≤ b → b < x + 48 → h' b = h b) : CS2 h' x cur ld sh Fc sc := by
  refine ⟨fun z => ⟨(c.1 z).1.mv (fun b b1 b2 => e b (by omega) (by omega)), (c.1 z).2⟩, fun k hk z => ⟨(c.2 k hk z).1, (c.2 k hk z).2.mv (fun b b1 b2 => e b (by omega) (by omega))⟩⟩
theorem CS.mv {h h' : q_H} {n n' x : Nat} {F : Nat → Nat} {sz : Nat} {ld : Bool} {Fc : Nat → Nat} {sc P : Nat} (c : CS h n x F sz ld Fc sc P) (hn : n ≤ n') (e : ∀ b, b < n → ((x ≤ b ∧ b < x + 48) ∨ x + 73 < b) → h' b = h b) : CS h' n' x F sz ld Fc sc P := by
  obtain ⟨cur, spa, sh, ra, rc, rs, ma, mc, ms, c0, c1, c2, c3⟩ := c
  have hx : x + 73 < n := c1.2.2.2.2.2.2.2.2.2.1
  have hcs := c0.2.1
  exact ⟨cur, spa, sh, ra, rc, rs, ma, mc, ms, c0.mv (fun b b1 b2 => e b (by omega) (by omega)), c1.mv hcs hn e, c2.mv (by omega) (fun b b1 b2 => e b (by omega) (by omega)), c3⟩
/-- the reference (y .. y + 24) -/
def RS (h : q_H) (y : Nat) (F : Nat → Nat) (sz : Nat) (ld : Bool) (Fc : Nat → Nat) (sc : Nat) : Prop := (∃ fa wi of_ pr le bd, h y = some (e_Mo y fa (nI sz) (bI ld) wi of_ (bI bd) pr le) ∧ (ld = true → wi = bI (mp_w Fc sc))) ∧ TP h y F sz ∧ MoN h y ∧ MoE h y ∧ (∃ gf : Nat → Int32, h (y + 2) = some (.inl (0, 16384, .inl gf))) ∧ (∃ gp gl : Nat → Int32, h (y + 4) = some (.inl (0, 16, .inl gp)) ∧ h (y + 5) = some (.inl (0, 16, .inl gl))) ∧ sz ≤ 16384 ∧ (∀ j, F j < 256) ∧ (ld = true → MoC h y Fc sc ∧ sc ≤ 16384 ∧ (∀ j, Fc j < 256) ∧ FNT Fc sc ∧ ALL_ok Fc sc)
theorem RS.mv {h h' : q_H} {y : Nat} {F : Nat → Nat} {sz : Nat} {ld : Bool} {Fc : Nat → Nat} {sc : Nat} (r : RS h y F sz ld Fc sc) (e : ∀ b, y ≤ b → b ≤ y + 24 → h' b = h b) : RS h' y F sz ld Fc sc := by
  obtain ⟨⟨fa, wi, of_, pr, le, bd, r1, r2⟩, ⟨g, r3, r4⟩, ⟨gn, r5, r6⟩, r7, ⟨gf, r8⟩, ⟨gp, gl, r9, r10⟩, r11, r12, r13⟩ := r
  refine ⟨⟨fa, wi, of_, pr, le, bd, (e _ (by omega) (by omega)).trans r1, r2⟩, ⟨g, (e _ (by omega) (by omega)).trans r3, r4⟩, ⟨gn, (e _ (by omega) (by omega)).trans r5, r6⟩, fun k k1 k2 => ?_, ⟨gf, (e _ (by omega) (by omega)).trans r8⟩, ⟨gp, gl, (e _ (by omega) (by omega)).trans r9, (e _ (by omega) (by omega)).trans r10⟩, r11, r12, fun z => ?_⟩
  · obtain ⟨g, q⟩ := r7 k k1 k2
    exact ⟨g, (e _ (by omega) (by omega)).trans q⟩
  · obtain ⟨⟨⟨gf, m1, m2⟩, gp, gl, m3, m4, m5⟩, r14⟩ := r13 z
    exact ⟨⟨⟨gf, (e _ (by omega) (by omega)).trans m1, m2⟩, gp, gl, (e _ (by omega) (by omega)).trans m3, (e _ (by omega) (by omega)).trans m4, m5⟩, r14⟩
