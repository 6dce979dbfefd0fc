/-! a walk taken up again at its own point: the cells are all known behind it -/
section X4
variable {p : Program} {l : Launch} {e : Env} {R : Room} {s : State} {m : MethodId} {args : Array Value} {below : List Frame} {meth : Method} {c : Code} {T : State} {locs : List Loc} {cells slots : Nat}
theorem x_hears {u U : State} (h : u.vm.Alike U.vm) (hh : u.hears m below = true) : U.hears m below = true := by
  have hm : ∀ q, U.vm.method? q = u.vm.method? q := fun q => h.method? q
  have hc : ∀ q, U.code? q = u.code? q := fun q => by rw [State.code?_eq, State.code?_eq, hm]
  unfold State.hears at hh ⊢
  cases below with
  | nil => dsimp only at hh ⊢; rw [hm]; exact hh
  | cons f r =>
    cases f <;> dsimp only at hh ⊢ <;> first | exact hh | (rw [hc]; exact hh) | (rw [hm]; exact hh)
theorem x_base (X : Stand p l e R s m args below meth c T locs cells slots) (hc : cells ≤ R.cells) (hsl : slots ≤ R.slots) : Stand p l e { frames := R.frames, cells := R.cells - cells, slots := R.slots - slots, locals := R.locals } (T.setFrames (.invoking m args :: below)) m args below meth c T [] 0 0 := by
  obtain ⟨g₀, hfr⟩ := X.frames_eq
  have hcur : T.cur < T.threads.size := State.cur_lt_of_frames hfr
  have hf : (T.setFrames (.invoking m args :: below)).frames = .invoking m args :: below := State.frames_setFrames _ hcur
  have hvm : (T.setFrames (.invoking m args :: below)).vm = T.vm := rfl
  have hme : e.platform.stackLimits (T.setFrames (.invoking m args :: below)).me = e.platform.stackLimits T.me := State.stackLimits_setFrames _ _ _
  have hby : (T.setFrames (.invoking m args :: below)).me.stackBytes = T.me.stackBytes := State.stackBytes_setFrames _ _
  have hli : (T.setFrames (.invoking m args :: below)).localsInUse = s.localsInUse := by
    rw [State.localsInUse_invoking X.frames X.method X.code, State.localsInUse_invoking hf (show (T.setFrames (.invoking m args :: below)).vm.method? m = some meth from X.method') X.code]
  refine ⟨X.admits, X.cas, X.clock, hf, ?_, x_hears X.warmed.alike X.hears, X.method', X.code, X.here, X.tail, State.WarmedH.refl _, hme.symm, hby.symm, ?_⟩
  · have h := X.room
    have h1 := X.heapSize
    have h2 := X.used
    have h3 := X.book
    have h4 := X.limits
    have h5 := X.bytes
    simp only [State.hasRoom, Bool.and_eq_true, decide_eq_true_eq] at h ⊢
    obtain ⟨⟨⟨⟨r1, r2, r3, r4, r5, r6⟩, r7⟩, r8⟩, r9⟩ := h
    rw [hli, hf, hme, hby, h4, h5]
    rw [X.frames] at r2 r3
    exact ⟨⟨⟨⟨r1, r2, r3, r4, r5, r6⟩, show T.heap.size + (R.cells - cells) ≤ _ by omega⟩, show T.slotsUsed + (R.slots - slots) ≤ _ by omega⟩, h3⟩
  · obtain ⟨t, ht, -⟩ := State.frames_cons hf
    have h := (State.sameButNew.refl _ ht).setFrames T.frames (show (T.setFrames (.invoking m args :: below)).cur < (T.setFrames (.invoking m args :: below)).threads.size from State.cur_lt_of_frames hf)
    obtain ⟨t2, ht2, -⟩ := State.frames_cons hfr
    rw [State.setFrames_setFrames, State.setFrames_self ht2] at h
    exact h
end X4
