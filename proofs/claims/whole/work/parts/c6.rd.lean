/-! the law reads its script -/
def L_Ex (G : q_G) (b L : Nat) (xs : Nat → Int32) : State → Code → Prop := fun s _ => q_St G s ∧ va_X b L xs s s.heap ∧ b < G.2.2
set_option maxRecDepth 100000 in
set_option maxHeartbeats 4000000 in
theorem v_rd {G : q_G} {l : Launch} {y : MethodName} {cc : ByteArray} {lnn : Nat} {Ts : List Cond} {M : q_MT} {d mc ms pc b L i q n k sl : Nat} {kq : Int} {xs : Nat → Int32} {Q : q_P} {lv : q_L} {st : List Value} {h : q_H} (hd0 : decode cc pc = .ok (.aload_n ⟨0, q_l04⟩, 1)) (hd1 : decode cc (pc + 1) = .ok (.iload 4, 2)) (hd3 : decode cc (pc + 1 + 2) = .ok (.iconst kq, 1)) (hd4 : decode cc (pc + 1 + 2 + 1) = .ok (.iadd, 1)) (hd5 : decode cc (pc + 1 + 2 + 1 + 1) = .ok (.iaload, 1)) (hl0 : q_get lv 0 = some (.ref b)) (hl4 : q_get lv 4 = some (.int (nI i))) (hk : Int32.ofInt kq = nI q) (hi : i + q < L) (hL : L ≤ 3072)
    (kk : q_V G l (L_Ex G b L xs) y cc lnn Ts M d mc ms Q (pc + 1 + 2 + 1 + 1 + 1) lv (.int (xs (i + q)) :: st) h n k sl) : q_V G l (L_Ex G b L xs) y cc lnn Ts M d mc ms Q pc lv st h n k sl := by
  intro p e s m args below meth c H locs ls cx ex r hS hl
  have hx := cx.1
  have hb := cx.2.1
  have hKx := cx.2.2.2.2.2.2.2.1
  obtain ⟨-, ⟨scr, x1, x2, x3, x4, x5⟩, x6⟩ := id ex
  have hH : H[b]? = some scr := (hS.2.1 b (Nat.lt_of_lt_of_le x6 hKx.2.2) (fun z => absurd x6 (Nat.not_lt.mpr z))).trans x1
  refine lv_aload_n hx hb hd0 rfl (hl.at hl0) ?_
  refine lv_iload hx hb hd1 (hl.at hl4) ?_
  refine lv_iconst hx hb hd3 rfl ?_
  refine lv_iadd hx hb hd4 ?_
  have e1 : nI i + Int32.ofInt kq = nI (i + q) := by rw [hk, nI_add]
  rw [e1]
  refine W.iald (j := nI (i + q)) hx hb hH x2 x3 ?_ ?_ rfl rfl hd5 (kk p e s m args below meth c H locs ls cx ex r hS hl)
  · rw [nI_clamp (by omega), x4]
    rintro (z | z)
    · exact nI_pos (by omega) z
    · omega
  · rw [nI_clamp (by omega)]
    exact x5 _ hi
set_option maxRecDepth 100000 in
set_option maxHeartbeats 4000000 in
theorem v_rd0 {G : q_G} {l : Launch} {y : MethodName} {cc : ByteArray} {lnn : Nat} {Ts : List Cond} {M : q_MT} {d mc ms pc b L i n k sl : Nat} {xs : Nat → Int32} {Q : q_P} {lv : q_L} {st : List Value} {h : q_H} (hd0 : decode cc pc = .ok (.aload_n ⟨0, q_l04⟩, 1)) (hd1 : decode cc (pc + 1) = .ok (.iload 4, 2)) (hd3 : decode cc (pc + 1 + 2) = .ok (.iaload, 1)) (hl0 : q_get lv 0 = some (.ref b)) (hl4 : q_get lv 4 = some (.int (nI i))) (hi : i < L) (hL : L ≤ 3072)
    (kk : q_V G l (L_Ex G b L xs) y cc lnn Ts M d mc ms Q (pc + 1 + 2 + 1) lv (.int (xs i) :: st) h n k sl) : q_V G l (L_Ex G b L xs) y cc lnn Ts M d mc ms Q pc lv st h n k sl := by
  intro p e s m args below meth c H locs ls cx ex r hS hl
  have hx := cx.1
  have hb := cx.2.1
  have hKx := cx.2.2.2.2.2.2.2.1
  obtain ⟨-, ⟨scr, x1, x2, x3, x4, x5⟩, x6⟩ := id ex
  have hH : H[b]? = some scr := (hS.2.1 b (Nat.lt_of_lt_of_le x6 hKx.2.2) (fun z => absurd x6 (Nat.not_lt.mpr z))).trans x1
  refine lv_aload_n hx hb hd0 rfl (hl.at hl0) ?_
  refine lv_iload hx hb hd1 (hl.at hl4) ?_
  refine W.iald (j := nI i) hx hb hH x2 x3 ?_ ?_ rfl rfl hd3 (kk p e s m args below meth c H locs ls cx ex r hS hl)
  · rw [nI_clamp (by omega), x4]
    rintro (z | z)
    · exact nI_pos (by omega) z
    · omega
  · rw [nI_clamp (by omega)]
    exact x5 _ hi
set_option maxRecDepth 100000 in
set_option maxHeartbeats 4000000 in
theorem v_len {G : q_G} {l : Launch} {y : MethodName} {cc : ByteArray} {lnn : Nat} {Ts : List Cond} {M : q_MT} {d mc ms pc b L n k sl : Nat} {xs : Nat → Int32} {Q : q_P} {lv : q_L} {st : List Value} {h : q_H} (hd0 : decode cc pc = .ok (.aload_n ⟨0, q_l04⟩, 1)) (hd1 : decode cc (pc + 1) = .ok (.arraylength, 1)) (hl0 : q_get lv 0 = some (.ref b))
    (kk : q_V G l (L_Ex G b L xs) y cc lnn Ts M d mc ms Q (pc + 1 + 1) lv (.int (nI L) :: st) h n k sl) : q_V G l (L_Ex G b L xs) y cc lnn Ts M d mc ms Q pc lv st h n k sl := by
  intro p e s m args below meth c H locs ls cx ex r hS hl
  have hx := cx.1
  have hb := cx.2.1
  have hKx := cx.2.2.2.2.2.2.2.1
  obtain ⟨-, ⟨scr, x1, x2, x3, x4, x5⟩, x6⟩ := id ex
  have hH : H[b]? = some scr := (hS.2.1 b (Nat.lt_of_lt_of_le x6 hKx.2.2) (fun z => absurd x6 (Nat.not_lt.mpr z))).trans x1
  refine lv_aload_n hx hb hd0 rfl (hl.at hl0) ?_
  exact W.alen (n := nI L) hx hb hH x2 (by rw [x4]; rfl) rfl rfl hd1 (kk p e s m args below meth c H locs ls cx ex r hS hl)
